-- reading a text: at 0 M, 1 grain, 2 a thing, 3 hole, 4 wait, 5 kind, 6 row, 7 answers, -1 nowhere; p: letters, clerks, grain, homes, waits, kinds, posts, answers
abbrev zP8 : Type := Nat × Nat × Int × (Nat → Int) × (Nat → Int) × (Nat → Int) × (Nat → Int) × (Nat → Int)
def zhi (h : Nat → Int) (x : Int) : Nat → Nat
  | 0 => 0
  | l + 1 => if h l = x then zhi h x l + 1 else zhi h x l
theorem zhi_s (h : Nat → Int) (x : Int) (l : Nat) : zhi h x (l + 1) = if h l = x then zhi h x l + 1 else zhi h x l := rfl
def zstep (a : Int) (p : zP8) (s : Int) : Int × zP8 :=
  if a = 0 then (if s = 77 then 1 else -1, p)
  else if a = 1 then (if 48 ≤ s ∧ s ≤ 57 then 2 else -1, (p.1, p.2.1, s - 48, p.2.2.2))
  else if a = 2 then (if s = 76 ∧ p.1 < 6 then 3 else if s = 67 ∧ p.2.1 < 3 then 6 else -1, p)
  else if a = 3 then (if (0 ≤ s - 97 ∧ s - 97 < 12) ∧ zhi p.2.2.2.1 (s - 97) p.1 < 2 then 4 else -1, (p.1, p.2.1, p.2.2.1, zu1 p.2.2.2.1 p.1 (s - 97), p.2.2.2.2))
  else if a = 4 then (if 49 ≤ s ∧ s ≤ 57 then 5 else -1, (p.1, p.2.1, p.2.2.1, p.2.2.2.1, zu1 p.2.2.2.2.1 p.1 (s - 48), p.2.2.2.2.2))
  else if a = 5 then (if 48 ≤ s ∧ s ≤ 51 then 2 else -1, (p.1 + 1, p.2.1, p.2.2.1, p.2.2.2.1, p.2.2.2.2.1, zu1 p.2.2.2.2.2.1 p.1 (s - 48), p.2.2.2.2.2.2))
  else if a = 6 then (if 48 ≤ s ∧ s ≤ 50 then 7 else -1, (p.1, p.2.1, p.2.2.1, p.2.2.2.1, p.2.2.2.2.1, p.2.2.2.2.2.1, zu1 p.2.2.2.2.2.2.1 p.2.1 (s - 48), p.2.2.2.2.2.2.2))
  else if a = 7 then (if 49 ≤ s ∧ s ≤ 51 then 2 else -1, (p.1, p.2.1 + 1, p.2.2.1, p.2.2.2.1, p.2.2.2.2.1, p.2.2.2.2.2.1, p.2.2.2.2.2.2.1, zu1 p.2.2.2.2.2.2.2 p.2.1 (s - 48)))
  else (-1, p)
def zp0 : zP8 := (0, 0, 0, zz0, zz0, zz0, zz0, zz0)
def zpre (y : Nat → Int) : Nat → Int × zP8
  | 0 => (0, zp0)
  | i + 1 => zstep (zpre y i).1 (zpre y i).2 (y i)
theorem zpre_s (y : Nat → Int) (i : Nat) : zpre y (i + 1) = zstep (zpre y i).1 (zpre y i).2 (y i) := rfl
def zflt (y : Nat → Int) (t : Nat) : Nat → Nat → Int
  | 0, _ => if (zpre y t).1 = 2 then -9 else (t : Int)
  | r + 1, i => if (zpre y (i + 1)).1 = -1 then (i : Int) else zflt y t r (i + 1)
theorem zflt_s (y : Nat → Int) (t r i : Nat) : zflt y t (r + 1) i = if (zpre y (i + 1)).1 = -1 then (i : Int) else zflt y t r (i + 1) := rfl
def zfault (y : Nat → Int) (t : Nat) : Int := zflt y t t 0
/-- what a state of reading can be -/
def zPV (a : Int) (p : zP8) : Prop := p.1 ≤ 6 ∧ p.2.1 ≤ 3 ∧ (3 ≤ a ∧ a ≤ 5 → p.1 < 6) ∧ (6 ≤ a → p.2.1 < 3) ∧ 0 ≤ a ∧ a ≤ 7 ∧ (2 ≤ a → 0 ≤ p.2.2.1 ∧ p.2.2.1 ≤ 9) ∧
  (∀ l, (l < p.1 ∨ (l = p.1 ∧ (a = 4 ∨ a = 5))) → 0 ≤ p.2.2.2.1 l ∧ p.2.2.2.1 l < 12) ∧ (∀ l, (l < p.1 ∨ (l = p.1 ∧ a = 5)) → 1 ≤ p.2.2.2.2.1 l ∧ p.2.2.2.2.1 l ≤ 9) ∧ (∀ l, l < p.1 → 0 ≤ p.2.2.2.2.2.1 l ∧ p.2.2.2.2.2.1 l ≤ 3) ∧
  (∀ l, (l < p.2.1 ∨ (l = p.2.1 ∧ a = 7)) → 0 ≤ p.2.2.2.2.2.2.1 l ∧ p.2.2.2.2.2.2.1 l ≤ 2) ∧ (∀ l, l < p.2.1 → 1 ≤ p.2.2.2.2.2.2.2 l ∧ p.2.2.2.2.2.2.2 l ≤ 3)
theorem zPV_step {a : Int} {p : zP8} {s : Int} (h : zPV a p) (hr : ¬ (zstep a p s).1 = -1) : zPV (zstep a p s).1 (zstep a p s).2 := by
  obtain ⟨n, nc, gr, ho, wt, kd, po, an⟩ := p
  obtain ⟨h1, h2, h3, h4, h5, h6, h7, h8, h9, h10, h11, h12⟩ := h
  dsimp only at h1 h2 h3 h4 h7 h8 h9 h10 h11 h12
  unfold zstep at hr ⊢
  rcases (show a = 0 ∨ a = 1 ∨ a = 2 ∨ a = 3 ∨ a = 4 ∨ a = 5 ∨ a = 6 ∨ a = 7 by omega) with rfl | rfl | rfl | rfl | rfl | rfl | rfl | rfl
  · simp only [if_true] at hr ⊢
    split at hr
    · rename_i hc; simp only [hc, if_true]
      exact ⟨h1, h2, by omega, by omega, by omega, by omega, by omega, fun l hl => h8 l (by dsimp only at hl; omega), fun l hl => h9 l (by dsimp only at hl; omega), h10, fun l hl => h11 l (by dsimp only at hl; omega), h12⟩
    · exact absurd rfl hr
  · simp only [show ¬ (1 : Int) = 0 by decide, if_true, if_false] at hr ⊢
    split at hr
    · rename_i hc; simp only [hc, and_self, if_true]
      exact ⟨h1, h2, by omega, by omega, by omega, by omega, fun _ => by dsimp only; omega, fun l hl => h8 l (by dsimp only at hl; omega), fun l hl => h9 l (by dsimp only at hl; omega), h10, fun l hl => h11 l (by dsimp only at hl; omega), h12⟩
    · exact absurd rfl hr
  · simp only [show ¬ (2 : Int) = 0 by decide, show ¬ (2 : Int) = 1 by decide, if_true, if_false] at hr ⊢
    split at hr
    · rename_i hc; simp only [hc, and_self, if_true]
      exact ⟨h1, h2, fun _ => hc.2, by omega, by omega, by omega, fun _ => h7 (by omega), fun l hl => h8 l (by dsimp only at hl; omega), fun l hl => h9 l (by dsimp only at hl; omega), h10, fun l hl => h11 l (by dsimp only at hl; omega), h12⟩
    · rename_i hc
      split at hr
      · rename_i hc2
        rw [if_neg hc, if_pos hc2]
        exact ⟨h1, h2, by omega, fun _ => hc2.2, by omega, by omega, fun _ => h7 (by omega), fun l hl => h8 l (by dsimp only at hl; omega), fun l hl => h9 l (by dsimp only at hl; omega), h10, fun l hl => h11 l (by dsimp only at hl; omega), h12⟩
      · exact absurd rfl hr
  · simp only [show ¬ (3 : Int) = 0 by decide, show ¬ (3 : Int) = 1 by decide, show ¬ (3 : Int) = 2 by decide, if_true, if_false] at hr ⊢
    split at hr
    · rename_i hc
      rw [if_pos hc]
      refine ⟨h1, h2, fun _ => h3 (by omega), by omega, by omega, by omega, fun _ => h7 (by omega), fun l hl => ?_, fun l hl => h9 l (by dsimp only at hl; omega), h10, fun l hl => h11 l (by dsimp only at hl; omega), h12⟩
      dsimp only at hl ⊢
      by_cases e : l = n
      · subst e; rw [zu1_eq]; exact hc.1
      · rw [zu1_ne _ _ e]; exact h8 l (by omega)
    · exact absurd rfl hr
  · simp only [show ¬ (4 : Int) = 0 by decide, show ¬ (4 : Int) = 1 by decide, show ¬ (4 : Int) = 2 by decide, show ¬ (4 : Int) = 3 by decide, if_true, if_false] at hr ⊢
    split at hr
    · rename_i hc
      rw [if_pos hc]
      refine ⟨h1, h2, fun _ => h3 (by omega), by omega, by omega, by omega, fun _ => h7 (by omega), fun l hl => h8 l (by dsimp only at hl; omega), fun l hl => ?_, h10, fun l hl => h11 l (by dsimp only at hl; omega), h12⟩
      dsimp only at hl ⊢
      by_cases e : l = n
      · subst e; rw [zu1_eq]; omega
      · rw [zu1_ne _ _ e]; exact h9 l (by omega)
    · exact absurd rfl hr
  · simp only [show ¬ (5 : Int) = 0 by decide, show ¬ (5 : Int) = 1 by decide, show ¬ (5 : Int) = 2 by decide, show ¬ (5 : Int) = 3 by decide, show ¬ (5 : Int) = 4 by decide, if_true, if_false] at hr ⊢
    split at hr
    · rename_i hc
      rw [if_pos hc]
      have h3' := h3 (by omega)
      refine ⟨by dsimp only; omega, h2, by omega, by omega, by omega, by omega, fun _ => h7 (by omega), fun l hl => h8 l (by dsimp only at hl; omega), fun l hl => h9 l (by dsimp only at hl; omega), fun l hl => ?_, fun l hl => h11 l (by dsimp only at hl; omega), h12⟩
      dsimp only at hl ⊢
      by_cases e : l = n
      · subst e; rw [zu1_eq]; omega
      · rw [zu1_ne _ _ e]; exact h10 l (by omega)
    · exact absurd rfl hr
  · simp only [show ¬ (6 : Int) = 0 by decide, show ¬ (6 : Int) = 1 by decide, show ¬ (6 : Int) = 2 by decide, show ¬ (6 : Int) = 3 by decide, show ¬ (6 : Int) = 4 by decide, show ¬ (6 : Int) = 5 by decide, if_true, if_false] at hr ⊢
    split at hr
    · rename_i hc
      rw [if_pos hc]
      refine ⟨h1, h2, by omega, fun _ => h4 (by omega), by omega, by omega, fun _ => h7 (by omega), fun l hl => h8 l (by dsimp only at hl; omega), fun l hl => h9 l (by dsimp only at hl; omega), h10, fun l hl => ?_, h12⟩
      dsimp only at hl ⊢
      by_cases e : l = nc
      · subst e; rw [zu1_eq]; omega
      · rw [zu1_ne _ _ e]; exact h11 l (by omega)
    · exact absurd rfl hr
  · simp only [show ¬ (7 : Int) = 0 by decide, show ¬ (7 : Int) = 1 by decide, show ¬ (7 : Int) = 2 by decide, show ¬ (7 : Int) = 3 by decide, show ¬ (7 : Int) = 4 by decide, show ¬ (7 : Int) = 5 by decide, show ¬ (7 : Int) = 6 by decide, if_true, if_false] at hr ⊢
    split at hr
    · rename_i hc
      rw [if_pos hc]
      have h4' := h4 (by omega)
      refine ⟨h1, by dsimp only; omega, by omega, by omega, by omega, by omega, fun _ => h7 (by omega), fun l hl => h8 l (by dsimp only at hl; omega), fun l hl => h9 l (by dsimp only at hl; omega), h10, fun l hl => h11 l (by dsimp only at hl; omega), fun l hl => ?_⟩
      dsimp only at hl ⊢
      by_cases e : l = nc
      · subst e; rw [zu1_eq]; omega
      · rw [zu1_ne _ _ e]; exact h12 l (by omega)
    · exact absurd rfl hr
theorem zPV_0 : zPV 0 zp0 := ⟨by decide, by decide, by omega, by omega, by omega, by omega, by omega, fun l hl => absurd hl (by show ¬ (l < 0 ∨ (l = 0 ∧ _)); omega), fun l hl => absurd hl (by show ¬ (l < 0 ∨ (l = 0 ∧ _)); omega), fun l hl => absurd hl (Nat.not_lt_zero l), fun l hl => absurd hl (by show ¬ (l < 0 ∨ (l = 0 ∧ _)); omega), fun l hl => absurd hl (Nat.not_lt_zero l)⟩
theorem zPV_pre (y : Nat → Int) : ∀ i, (∀ j, j ≤ i → ¬ (zpre y j).1 = -1) → zPV (zpre y i).1 (zpre y i).2 := by
  intro i
  induction i with
  | zero => intro _; exact zPV_0
  | succ i ih =>
    intro h
    rw [zpre_s]
    exact zPV_step (ih (fun j hj => h j (by omega))) (by rw [← zpre_s]; exact h (i + 1) (Nat.le_refl _))
/-- what a plan's cells hold of it -/
def zPR (q h w k a o e : Nat → Int) (st : Int) (p : zP8) : Prop := q 0 = (p.1 : Int) ∧ q 1 = (p.2.1 : Int) ∧ (2 ≤ st → q 2 = p.2.2.1) ∧ (∀ l, (l < p.1 ∨ (l = p.1 ∧ (st = 4 ∨ st = 5))) → h l = p.2.2.2.1 l) ∧ (∀ l, (l < p.1 ∨ (l = p.1 ∧ st = 5)) → w l = p.2.2.2.2.1 l) ∧
  (∀ l, l < p.1 → k l = p.2.2.2.2.2.1 l ∧ a l = zal (p.2.2.2.2.1 l) (p.2.2.2.2.2.1 l)) ∧ (∀ l, (l < p.2.1 ∨ (l = p.2.1 ∧ st = 7)) → o l = p.2.2.2.2.2.2.1 l) ∧ ∀ l, l < p.2.1 → e l = p.2.2.2.2.2.2.2 l
theorem zhi_cg {h g : Nat → Int} (x : Int) : ∀ n, (∀ l, l < n → h l = g l) → zhi h x n = zhi g x n := by
  intro n
  induction n with
  | zero => intro _; rfl
  | succ n ih => intro hh; rw [zhi_s, zhi_s, ih (fun l hl => hh l (by omega)), hh n (by omega)]
theorem zstep_0 (p : zP8) (s : Int) : zstep 0 p s = (if s = 77 then 1 else -1, p) := rfl
theorem zstep_1 (p : zP8) (s : Int) : zstep 1 p s = (if 48 ≤ s ∧ s ≤ 57 then 2 else -1, (p.1, p.2.1, s - 48, p.2.2.2)) := rfl
theorem zstep_2 (p : zP8) (s : Int) : zstep 2 p s = (if s = 76 ∧ p.1 < 6 then 3 else if s = 67 ∧ p.2.1 < 3 then 6 else -1, p) := rfl
theorem zstep_3 (p : zP8) (s : Int) : zstep 3 p s = (if (0 ≤ s - 97 ∧ s - 97 < 12) ∧ zhi p.2.2.2.1 (s - 97) p.1 < 2 then 4 else -1, (p.1, p.2.1, p.2.2.1, zu1 p.2.2.2.1 p.1 (s - 97), p.2.2.2.2)) := rfl
theorem zstep_4 (p : zP8) (s : Int) : zstep 4 p s = (if 49 ≤ s ∧ s ≤ 57 then 5 else -1, (p.1, p.2.1, p.2.2.1, p.2.2.2.1, zu1 p.2.2.2.2.1 p.1 (s - 48), p.2.2.2.2.2)) := rfl
theorem zstep_5 (p : zP8) (s : Int) : zstep 5 p s = (if 48 ≤ s ∧ s ≤ 51 then 2 else -1, (p.1 + 1, p.2.1, p.2.2.1, p.2.2.2.1, p.2.2.2.2.1, zu1 p.2.2.2.2.2.1 p.1 (s - 48), p.2.2.2.2.2.2)) := rfl
theorem zstep_6 (p : zP8) (s : Int) : zstep 6 p s = (if 48 ≤ s ∧ s ≤ 50 then 7 else -1, (p.1, p.2.1, p.2.2.1, p.2.2.2.1, p.2.2.2.2.1, p.2.2.2.2.2.1, zu1 p.2.2.2.2.2.2.1 p.2.1 (s - 48), p.2.2.2.2.2.2.2)) := rfl
theorem zstep_7 (p : zP8) (s : Int) : zstep 7 p s = (if 49 ≤ s ∧ s ≤ 51 then 2 else -1, (p.1, p.2.1 + 1, p.2.2.1, p.2.2.2.1, p.2.2.2.2.1, p.2.2.2.2.2.1, p.2.2.2.2.2.2.1, zu1 p.2.2.2.2.2.2.2 p.2.1 (s - 48))) := rfl
section ZPR
variable {q h w k a o e : Nat → Int} {p : zP8}
theorem zPR_01 (hR : zPR q h w k a o e 0 p) : zPR q h w k a o e 1 p := by
  obtain ⟨e0, e1, e2, e3, e4, e5, e6, e7⟩ := hR
  exact ⟨e0, e1, fun h => absurd h (by decide), fun l hl => e3 l (by omega), fun l hl => e4 l (by omega), e5, fun l hl => e6 l (by omega), e7⟩
theorem zPR_12 (hR : zPR q h w k a o e 1 p) (g : Int) : zPR (zu1 q 2 g) h w k a o e 2 (p.1, p.2.1, g, p.2.2.2) := by
  obtain ⟨e0, e1, e2, e3, e4, e5, e6, e7⟩ := hR
  exact ⟨by rw [zu1_ne _ _ (by decide)]; exact e0, by rw [zu1_ne _ _ (by decide)]; exact e1, fun _ => zu1_eq _ _ _, fun l hl => e3 l (by dsimp only at hl; omega), fun l hl => e4 l (by dsimp only at hl; omega), e5, fun l hl => e6 l (by dsimp only at hl; omega), e7⟩
theorem zPR_23 (hR : zPR q h w k a o e 2 p) : zPR q h w k a o e 3 p := by
  obtain ⟨e0, e1, e2, e3, e4, e5, e6, e7⟩ := hR
  exact ⟨e0, e1, fun _ => e2 (by decide), fun l hl => e3 l (by omega), fun l hl => e4 l (by omega), e5, fun l hl => e6 l (by omega), e7⟩
theorem zPR_26 (hR : zPR q h w k a o e 2 p) : zPR q h w k a o e 6 p := by
  obtain ⟨e0, e1, e2, e3, e4, e5, e6, e7⟩ := hR
  exact ⟨e0, e1, fun _ => e2 (by decide), fun l hl => e3 l (by omega), fun l hl => e4 l (by omega), e5, fun l hl => e6 l (by omega), e7⟩
theorem zPR_34 (hR : zPR q h w k a o e 3 p) (v : Int) : zPR q (zu1 h p.1 v) w k a o e 4 (p.1, p.2.1, p.2.2.1, zu1 p.2.2.2.1 p.1 v, p.2.2.2.2) := by
  obtain ⟨e0, e1, e2, e3, e4, e5, e6, e7⟩ := hR
  refine ⟨e0, e1, fun _ => e2 (by decide), fun l hl => ?_, fun l hl => e4 l (by dsimp only at hl; omega), e5, fun l hl => e6 l (by dsimp only at hl; omega), e7⟩
  dsimp only at hl ⊢
  by_cases e9 : l = p.1
  · subst e9; rw [zu1_eq, zu1_eq]
  · rw [zu1_ne _ _ e9, zu1_ne _ _ e9]; exact e3 l (by omega)
theorem zPR_45 (hR : zPR q h w k a o e 4 p) (v : Int) : zPR q h (zu1 w p.1 v) k a o e 5 (p.1, p.2.1, p.2.2.1, p.2.2.2.1, zu1 p.2.2.2.2.1 p.1 v, p.2.2.2.2.2) := by
  obtain ⟨e0, e1, e2, e3, e4, e5, e6, e7⟩ := hR
  refine ⟨e0, e1, fun _ => e2 (by decide), fun l hl => e3 l (by dsimp only at hl; omega), fun l hl => ?_, fun l hl => ?_, fun l hl => e6 l (by dsimp only at hl; omega), e7⟩
  · dsimp only at hl ⊢
    by_cases e9 : l = p.1
    · subst e9; rw [zu1_eq, zu1_eq]
    · rw [zu1_ne _ _ e9, zu1_ne _ _ e9]; exact e4 l (by omega)
  · dsimp only at hl ⊢
    rw [zu1_ne _ _ (show l ≠ p.1 by omega)]
    exact e5 l hl
theorem zPR_52 (hR : zPR q h w k a o e 5 p) (v : Int) : zPR (zu1 q 0 (q 0 + 1)) h w (zu1 k p.1 v) (zu1 a p.1 (zal (w p.1) v)) o e 2 (p.1 + 1, p.2.1, p.2.2.1, p.2.2.2.1, p.2.2.2.2.1, zu1 p.2.2.2.2.2.1 p.1 v, p.2.2.2.2.2.2) := by
  obtain ⟨e0, e1, e2, e3, e4, e5, e6, e7⟩ := hR
  refine ⟨by rw [zu1_eq, e0]; rfl, by rw [zu1_ne _ _ (by decide)]; exact e1, fun _ => by rw [zu1_ne _ _ (by decide)]; exact e2 (by decide), fun l hl => e3 l (by dsimp only at hl; omega), fun l hl => e4 l (by dsimp only at hl; omega), fun l hl => ?_, fun l hl => e6 l (by dsimp only at hl; omega), e7⟩
  dsimp only at hl ⊢
  by_cases e9 : l = p.1
  · subst e9; rw [zu1_eq, zu1_eq, zu1_eq, e4 p.1 (Or.inr ⟨rfl, rfl⟩)]; exact ⟨rfl, rfl⟩
  · rw [zu1_ne _ _ e9, zu1_ne _ _ e9, zu1_ne _ _ e9]; exact e5 l (by omega)
theorem zPR_67 (hR : zPR q h w k a o e 6 p) (v : Int) : zPR q h w k a (zu1 o p.2.1 v) e 7 (p.1, p.2.1, p.2.2.1, p.2.2.2.1, p.2.2.2.2.1, p.2.2.2.2.2.1, zu1 p.2.2.2.2.2.2.1 p.2.1 v, p.2.2.2.2.2.2.2) := by
  obtain ⟨e0, e1, e2, e3, e4, e5, e6, e7⟩ := hR
  refine ⟨e0, e1, fun _ => e2 (by decide), fun l hl => e3 l (by dsimp only at hl; omega), fun l hl => e4 l (by dsimp only at hl; omega), e5, fun l hl => ?_, e7⟩
  dsimp only at hl ⊢
  by_cases e9 : l = p.2.1
  · subst e9; rw [zu1_eq, zu1_eq]
  · rw [zu1_ne _ _ e9, zu1_ne _ _ e9]; exact e6 l (by omega)
theorem zPR_72 (hR : zPR q h w k a o e 7 p) (v : Int) : zPR (zu1 q 1 (q 1 + 1)) h w k a o (zu1 e p.2.1 v) 2 (p.1, p.2.1 + 1, p.2.2.1, p.2.2.2.1, p.2.2.2.2.1, p.2.2.2.2.2.1, p.2.2.2.2.2.2.1, zu1 p.2.2.2.2.2.2.2 p.2.1 v) := by
  obtain ⟨e0, e1, e2, e3, e4, e5, e6, e7⟩ := hR
  refine ⟨by rw [zu1_ne _ _ (by decide)]; exact e0, by rw [zu1_eq, e1]; rfl, fun _ => by rw [zu1_ne _ _ (by decide)]; exact e2 (by decide), fun l hl => e3 l (by dsimp only at hl; omega), fun l hl => e4 l (by dsimp only at hl; omega), e5, fun l hl => e6 l (by dsimp only at hl; omega), fun l hl => ?_⟩
  dsimp only at hl ⊢
  by_cases e9 : l = p.2.1
  · subst e9; rw [zu1_eq, zu1_eq]
  · rw [zu1_ne _ _ e9, zu1_ne _ _ e9]; exact e7 l (by omega)
end ZPR
