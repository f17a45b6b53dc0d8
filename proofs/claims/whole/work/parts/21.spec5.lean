-- what the class answers, as words of its cells
def zScr (q : Nat) : Prop := (3 ≤ q ∧ q ≤ 9) ∨ (19 ≤ q ∧ q ≤ 27) ∨ q = 38
def zQu (μ : zMem) (X : Int) : Int → zMem → Prop := fun r ν => r = X ∧ ∀ q, ¬ zScr q → ν q = μ q
theorem zup_id3 (μ : zMem) (a b c : Nat) (h : b ≠ a) (h1 : c ≠ a) (h2 : c ≠ b) : μ = zup (zup (zup μ a (μ a)) b (μ b)) c (μ c) := by
  funext q; unfold zup; split
  · rename_i h; rw [h]
  · split
    · rename_i h; rw [h]
    · split
      · rename_i h; rw [h]
      · rfl
theorem zup_id4 (μ : zMem) (a b c d : Nat) : μ = zup (zup (zup (zup μ a (μ a)) b (μ b)) c (μ c)) d (μ d) := by
  funext q; unfold zup; split
  · rename_i h; rw [h]
  · split
    · rename_i h; rw [h]
    · split
      · rename_i h; rw [h]
      · split
        · rename_i h; rw [h]
        · rfl
theorem zfr2 {μ ν : zMem} (h : ∃ x y, ν = zup (zup μ 26 x) 27 y) : ∀ q, ¬ zScr q → ν q = μ q := by
  obtain ⟨x, y, rfl⟩ := h
  intro q hq
  unfold zScr at hq
  unfold zup
  rw [if_neg (by omega), if_neg (by omega)]
theorem zfr3 {μ ν : zMem} {k : Nat} (hk : k = 21 ∨ k = 22) (h : ∃ f x y, ν = zup (zup (zup μ k f) 26 x) 27 y) : ∀ q, ¬ zScr q → ν q = μ q := by
  obtain ⟨f, x, y, rfl⟩ := h
  intro q hq
  unfold zScr at hq
  unfold zup
  rw [if_neg (by omega), if_neg (by omega), if_neg (by omega)]
theorem zfr4 {μ ν : zMem} (h : ∃ g h x y, ν = zup (zup (zup (zup μ 23 g) 24 h) 26 x) 27 y) : ∀ q, ¬ zScr q → ν q = μ q := by
  obtain ⟨f, g, x, y, rfl⟩ := h
  intro q hq
  unfold zScr at hq
  unfold zup
  rw [if_neg (by omega), if_neg (by omega), if_neg (by omega), if_neg (by omega)]
def zA_letter (n nc : Nat) (kd wt al c : Nat → Int) (x w : Int) : Int := if ¬ (0 ≤ x ∧ x < (n : Int)) then -1 else if w = 0 then c x.toNat else if w = 1 then wt x.toNat else if w = 2 then kd x.toNat else if w = 3 then c (12 + x.toNat) else if w = 4 then c (6 + x.toNat) else if w = 5 then (if c (12 + x.toNat) = 0 then zdl n kd al c x.toNat else -9) else -2
def zA_clerk (nc : Nat) (an c : Nat → Int) (x w : Int) : Int := if ¬ (0 ≤ x ∧ x < (nc : Int)) then -1 else if w = 0 then c (18 + x.toNat) else if w = 1 then an x.toNat else -2
def zA_hole (n : Nat) (c : Nat → Int) (x : Int) : Int := if 0 ≤ x ∧ x < 12 then (zin c x n : Int) else -1
def zA_about (n nc : Nat) (c : Nat → Int) (ac td tl : Int) (w : Int) : Int := if w = 0 then (n : Int) else if w = 1 then (nc : Int) else if w = 2 then c 22 else if w = 3 then c 21 else if w = 4 then (zwho c 0 n : Int) else if w = 5 then (zwho c 1 n : Int) else if w = 6 then (zwho c 2 n : Int) else if w = 7 then (zwho c 3 n : Int) else if w = 8 then (zpair c n 12 : Int) else if w = 9 then ac else if w = 10 then td else if w = 11 then tl else -2
def zA_ahead (n : Nat) (kd al : Nat → Int) (nc : Nat) (an c : Nat → Int) (x w : Int) : Int := if (0 ≤ x ∧ x ≤ 20) ∧ 0 ≤ w ∧ w < 4 then (zwho (zdays n kd al nc an x.toNat (c, zz0)).1 w n : Int) else -2
def zA_hatches (n : Nat) (kd al : Nat → Int) (nc : Nat) (an c : Nat → Int) (x : Int) : Int := if 0 ≤ x ∧ x < (n : Int) then (if 20 < zdth n kd al nc an c x.toNat (c x.toNat) then -9 else zdth n kd al nc an c x.toNat (c x.toNat)) else -1
noncomputable def zA_saved (n : Nat) (kd al : Nat → Int) (nc : Nat) (an c : Nat → Int) (x : Int) : Int := if 0 ≤ x ∧ x < (n : Int) then (if c (12 + x.toNat) = 0 then (zsh n kd al nc an c x.toNat 12).1 else -3) else -1
def zA_judge (n : Nat) (kd al : Nat → Int) (nc : Nat) (an c : Nat → Int) (x y : Int) : Int := if (1 ≤ x ∧ x ≤ 4) ∧ 0 ≤ y then (if (zfd x.toNat (zz0, y.toNat)).2 = 0 then zju n kd al nc an (zfd x.toNat (zz0, y.toNat)).1 x.toNat 0 (c, zz0) else -2) else -2
def zA_share (n : Nat) (kd al : Nat → Int) (nc : Nat) (an c : Nat → Int) (x q : Int) : Int := if 0 ≤ x ∧ x < (nc : Int) then zpart (zsr (fun b => (zlw n kd al nc an c b : Int)) nc x.toNat (2 ^ nc)).1 (zsr (fun b => (zlw n kd al nc an c b : Int)) nc x.toNat (2 ^ nc)).2 q else -1
def zA_rests (n : Nat) (kd al : Nat → Int) (nc : Nat) (an c : Nat → Int) (x y w : Int) : Int := if ¬ ((0 ≤ x ∧ x < (nc : Int)) ∧ 0 ≤ y ∧ y < (nc : Int)) then -1 else if x = y ∨ w < 0 ∨ 1 < w then -2 else
  if w = 0 then (zrc (fun a b => zir (fun k => zg1 n kd al nc an c x.toNat y.toNat (k / 3) (k % 3)) (fun k => zg2 n kd al nc an c x.toNat y.toNat (k / 3) (k % 3)) a b 3) 9).1 else (zrc (fun a b => zir (fun k => zg1 n kd al nc an c x.toNat y.toNat (k / 3) (k % 3)) (fun k => zg2 n kd al nc an c x.toNat y.toNat (k / 3) (k % 3)) a b 3) 9).2
def zA_may (dy ha : Nat → Int) (t : Nat) (w : Int) : Int := if w < 0 ∨ 1 < w then -2 else if w = 0 then (zmy (fun x => zfit dy ha x t) 36).1 else (zmy (fun x => zfit dy ha x t) 36).2
def zA_hawks (n : Nat) (c : Nat → Int) (x y q : Int) : Int := if (0 ≤ x ∧ x ≤ 6) ∧ 0 ≤ y ∧ y ≤ 10 then zpart (zsumr y (zpop (zwho c 2 n)) x.toNat (7 - x.toNat)) (zten (zpop (zwho c 2 n))) q else -2
def zA_years (n : Nat) (kd al : Nat → Int) (nc : Nat) (an c : Nat → Int) (sd x : Int) : Int := if 1 ≤ x ∧ x ≤ 30 then ((zyr n kd al nc an (c, zz0) sd x.toNat).2.2 : Int) else -2
/-- the digits that are read don't depend on what lay there -/
theorem zfd_cg : ∀ (i : Nat) (f g : Nat → Int) (r : Nat), (zfd i (f, r)).2 = (zfd i (g, r)).2 ∧ ∀ j, (j < i ∨ f j = g j) → (zfd i (f, r)).1 j = (zfd i (g, r)).1 j := by
  intro i
  induction i with
  | zero => intro f g r; exact ⟨rfl, fun j h => by rcases h with h | h; exact absurd h (by omega); exact h⟩
  | succ i ih =>
    intro f g r
    obtain ⟨h1, h2⟩ := ih (zu1 f i ((r % 10000 : Nat) : Int)) (zu1 g i ((r % 10000 : Nat) : Int)) (r / 10000)
    rw [zfd_s, zfd_s]
    refine ⟨h1, fun j hj => h2 j ?_⟩
    by_cases e : j = i
    · right; subst e; rw [zu1_eq, zu1_eq]
    · rcases hj with hj | hj
      · left; omega
      · right; rw [zu1_ne _ _ e, zu1_ne _ _ e]; exact hj
theorem zju_cg {n nc : Nat} {kd al an : Nat → Int} {f g : Nat → Int} {m : Nat} (h : ∀ j, j < m → f j = g j) : ∀ (r i : Nat) (s : zS), i + r ≤ m → zju n kd al nc an f r i s = zju n kd al nc an g r i s := by
  intro r
  induction r with
  | zero => intro i s _; rfl
  | succ r ih =>
    intro i s hi
    rw [zju_s, zju_s, h i (by omega), ih (i + 1) _ (by omega)]
