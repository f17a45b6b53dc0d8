-- days to come
def zdays (n : Nat) (kd al : Nat → Int) (nc : Nat) (an : Nat → Int) : Nat → zS → zS
  | 0, s => s
  | j + 1, s => zday n kd al nc an (zdays n kd al nc an j s)
def zdt (n : Nat) (kd al : Nat → Int) (nc : Nat) (an : Nat → Int) (l : Nat) : Nat → Nat → zS → Int
  | 0, _, _ => 21
  | r + 1, d, s => if s.1 (12 + l) = 0 then zdt n kd al nc an l r (d + 1) (zday n kd al nc an s) else if s.1 (12 + l) = 1 then 21 else (d : Int)
theorem zdt_s (n : Nat) (kd al : Nat → Int) (nc : Nat) (an : Nat → Int) (l r d : Nat) (s : zS) : zdt n kd al nc an l (r + 1) d s = if s.1 (12 + l) = 0 then zdt n kd al nc an l r (d + 1) (zday n kd al nc an s) else if s.1 (12 + l) = 1 then 21 else (d : Int) := rfl
def zz0 : Nat → Int := fun _ => 0
def zdth (n : Nat) (kd al : Nat → Int) (nc : Nat) (an c : Nat → Int) (l : Nat) (h : Int) : Int := zdt n kd al nc an l 21 0 (zu1 c l h, zz0)
def zlost (n : Nat) (c : Nat → Int) : Nat := zpop (zwho c 2 n ||| zwho c 3 n)
abbrev zRw : Type := (Nat → Int) × Nat × Nat × Nat
def zsa : Nat → zRw → zRw
  | 0, s => s
  | k + 1, s => zsa k (zu1 s.1 (18 + k) ((s.2.2.2 % 3 : Nat) : Int), s.2.1 + (s.2.2.2 % 3 + 1) * s.2.2.1, s.2.2.1 * 10, s.2.2.2 / 3)
theorem zsa_s (k : Nat) (s : zRw) : zsa (k + 1) s = zsa k (zu1 s.1 (18 + k) ((s.2.2.2 % 3 : Nat) : Int), s.2.1 + (s.2.2.2 % 3 + 1) * s.2.2.1, s.2.2.1 * 10, s.2.2.2 / 3) := rfl
def zval (n : Nat) (kd al : Nat → Int) (nc : Nat) (an c : Nat → Int) (w : Nat) : Nat := zlost n (zdays n kd al nc an 9 ((zsa nc (c, 0, 1, w)).1, zz0)).1
def zbr (n : Nat) (kd al : Nat → Int) (nc : Nat) (an c : Nat → Int) : Nat → Int × Int
  | 0 => (0, -9)
  | w + 1 => if (zbr n kd al nc an c w).2 = -9 ∨ (zval n kd al nc an c w : Int) < (zbr n kd al nc an c w).2 then (((zsa nc (c, 0, 1, w)).2.1 : Int), (zval n kd al nc an c w : Int)) else zbr n kd al nc an c w
theorem zbr_s (n : Nat) (kd al : Nat → Int) (nc : Nat) (an c : Nat → Int) (w : Nat) : zbr n kd al nc an c (w + 1) = if (zbr n kd al nc an c w).2 = -9 ∨ (zval n kd al nc an c w : Int) < (zbr n kd al nc an c w).2 then (((zsa nc (c, 0, 1, w)).2.1 : Int), (zval n kd al nc an c w : Int)) else zbr n kd al nc an c w := rfl
def zcp (n : Nat) (c : Nat → Int) (x y : Int) : Prop := (0 ≤ x ∧ x < (n : Int)) ∧ (0 ≤ y ∧ y < 12) ∧ c (12 + x.toNat) = 0 ∧ c x.toNat ≠ y ∧ zpop (zin c y n) < 2
def zcs (nc : Nat) (c : Nat → Int) (x y : Int) : Prop := (0 ≤ x ∧ x < (nc : Int)) ∧ (0 ≤ y ∧ y < 3) ∧ c (18 + x.toNat) ≠ y
noncomputable def zsh (n : Nat) (kd al : Nat → Int) (nc : Nat) (an c : Nat → Int) (l : Nat) : Nat → Int × Int
  | 0 => (-9, 0)
  | h + 1 => if ((h : Int) = c l ∨ ((0 ≤ (l : Int) ∧ (l : Int) < (n : Int)) ∧ (0 ≤ (h : Int) ∧ (h : Int) < 12) ∧ c (12 + (l : Int).toNat) = 0 ∧ c (l : Int).toNat ≠ (h : Int) ∧ zpop (zin c (h : Int) n) < 2)) ∧ ((zsh n kd al nc an c l h).1 = -9 ∨ (zsh n kd al nc an c l h).2 < zdth n kd al nc an c l h) then ((h : Int), zdth n kd al nc an c l h) else zsh n kd al nc an c l h
theorem zsh_s (n : Nat) (kd al : Nat → Int) (nc : Nat) (an c : Nat → Int) (l h : Nat) : zsh n kd al nc an c l (h + 1) = if ((h : Int) = c l ∨ ((0 ≤ (l : Int) ∧ (l : Int) < (n : Int)) ∧ (0 ≤ (h : Int) ∧ (h : Int) < 12) ∧ c (12 + (l : Int).toNat) = 0 ∧ c (l : Int).toNat ≠ (h : Int) ∧ zpop (zin c (h : Int) n) < 2)) ∧ ((zsh n kd al nc an c l h).1 = -9 ∨ (zsh n kd al nc an c l h).2 < zdth n kd al nc an c l h) then ((h : Int), zdth n kd al nc an c l h) else zsh n kd al nc an c l h := rfl
def zbit (b l : Nat) : Nat := b / 2 ^ l % 2
def zanb (c : Nat → Int) (b : Nat) : Nat → Nat → Int
  | 0 => c
  | l + 1 => if zbit b l = 0 then zanb c b l else zu1 (zanb c b l) (12 + l) 1
theorem zanb_s (c : Nat → Int) (b l : Nat) : zanb c b (l + 1) = if zbit b l = 0 then zanb c b l else zu1 (zanb c b l) (12 + l) 1 := rfl
def zq (n : Nat) (kd al : Nat → Int) (nc : Nat) (an : Nat → Int) : Nat → zS → Bool
  | 0, _ => true
  | r + 1, s => if 0 < zdayM n kd al nc an s then false else zq n kd al nc an r (zday n kd al nc an s)
theorem zq_s (n : Nat) (kd al : Nat → Int) (nc : Nat) (an : Nat → Int) (r : Nat) (s : zS) : zq n kd al nc an (r + 1) s = if 0 < zdayM n kd al nc an s then false else zq n kd al nc an r (zday n kd al nc an s) := rfl
def zqu (n : Nat) (kd al : Nat → Int) (nc : Nat) (an c : Nat → Int) (b : Nat) : Bool := zq n kd al nc an 9 (zanb c b n, zz0)
def zqi (t : Nat → Bool) (ly k : Nat) : Nat → Nat → Option Nat
  | 0, _ => none
  | r + 1, b => if b &&& (63 ^^^ ly) = 0 ∧ zpop b = k ∧ t b = true then some b else zqi t ly k r (b + 1)
theorem zqi_s (t : Nat → Bool) (ly k r b : Nat) : zqi t ly k (r + 1) b = if b &&& (63 ^^^ ly) = 0 ∧ zpop b = k ∧ t b = true then some b else zqi t ly k r (b + 1) := rfl
def zqo (t : Nat → Bool) (ly : Nat) : Nat → Nat → Nat
  | 0, _ => ly
  | r + 1, k => match zqi t ly k (ly + 1) 0 with
    | some b => b
    | none => zqo t ly r (k + 1)
theorem zqo_s (t : Nat → Bool) (ly r k : Nat) : zqo t ly (r + 1) k = match zqi t ly k (ly + 1) 0 with
    | some b => b
    | none => zqo t ly r (k + 1) := rfl
-- they stay what can be
theorem zHV_row {n nc : Nat} {c : Nat → Int} (hn : n ≤ 6) (hc : nc ≤ 3) (h : zHV n nc c) {k : Nat} (hk : k < nc) {v : Int} (hv : 0 ≤ v ∧ v ≤ 3) : zHV n nc (zu1 c (18 + k) v) :=
  ⟨zHW_row hn hc h.1 hk hv, fun l hl h5 => by rw [zu1_ne _ _ (by omega)] at h5 ⊢; exact h.2 l hl h5⟩
theorem zHV_hole {n nc : Nat} {c : Nat → Int} (hn : n ≤ 6) (h : zHV n nc c) {l : Nat} (hl : l < n) {v : Int} (hv : 0 ≤ v ∧ v < 12) : zHV n nc (zu1 c l v) :=
  ⟨zHW_hole hn h.1 hl hv, fun l hl h5 => by rw [zu1_ne _ _ (by omega)] at h5 ⊢; exact h.2 l hl h5⟩
theorem zHV_grain {n nc : Nat} {c : Nat → Int} (hn : n ≤ 6) (hc : nc ≤ 3) (h : zHV n nc c) {v : Int} (hv : 0 ≤ v ∧ v ≤ 99) : zHV n nc (zu1 c 21 v) :=
  ⟨zHW_grain hn hc h.1 hv, fun l hl h5 => by rw [zu1_ne _ _ (by omega)] at h5 ⊢; exact h.2 l hl h5⟩
theorem zHV_fate1 {n nc : Nat} {c : Nat → Int} (hn : n ≤ 6) (h : zHV n nc c) {l : Nat} (hl : l < n) : zHV n nc (zu1 c (12 + l) 1) :=
  ⟨zHW_fate hn h.1 hl ⟨by decide, by decide⟩, fun o ho h5 => by
    rw [zu1_ne _ (j := 6 + o) _ (by omega)]
    by_cases e : o = l
    · subst e; rw [zu1_eq] at h5; exact absurd h5 (by decide)
    · rw [zu1_ne _ _ (by omega)] at h5; exact h.2 o ho h5⟩
theorem zdays_ok {n nc : Nat} {kd al an : Nat → Int} (hp : zPK n nc kd al an) {s : zS} (h : zHV n nc s.1) : ∀ j, zHV n nc (zdays n kd al nc an j s).1 := by
  intro j
  induction j with
  | zero => exact h
  | succ j ih => exact zday_ok hp ih
theorem zanb_ok {n nc : Nat} {c : Nat → Int} (hn : n ≤ 6) (h : zHV n nc c) (b : Nat) : ∀ l, l ≤ n → zHV n nc (zanb c b l) := by
  intro l
  induction l with
  | zero => intro _; exact h
  | succ l ih =>
    intro hl
    rw [zanb_s]
    split
    · exact ih (by omega)
    · exact zHV_fate1 hn (ih (by omega)) (by omega)
theorem zsa_ok {n nc : Nat} (hn : n ≤ 6) (hc : nc ≤ 3) : ∀ (k : Nat), k ≤ nc → ∀ s : zRw, zHV n nc s.1 → zHV n nc (zsa k s).1 := by
  intro k
  induction k with
  | zero => intro _ s h; exact h
  | succ k ih =>
    intro hk s h
    rw [zsa_s]
    exact ih (by omega) _ (zHV_row hn hc h (by omega) ⟨by omega, by omega⟩)
theorem zdt_rg {n nc : Nat} {kd al an : Nat → Int} (l : Nat) : ∀ (r d : Nat) (s : zS), r + d ≤ 21 → 0 ≤ zdt n kd al nc an l r d s ∧ zdt n kd al nc an l r d s ≤ 21 := by
  intro r
  induction r with
  | zero => intro d s _; show (0 : Int) ≤ 21 ∧ (21 : Int) ≤ 21; omega
  | succ r ih =>
    intro d s h
    rw [zdt_s]
    split
    · exact ih (d + 1) _ (by omega)
    · split <;> omega
theorem zb_not : ∀ b : Nat, b < 64 → ∀ l : Nat, l < 64 → zi (b : Int) &&& (zi (l : Int) ^^^ zi (-1)) = zi ((b &&& (63 ^^^ l) : Nat) : Int) := by decide +kernel
theorem zb_bit : ∀ b : Nat, b < 64 → ∀ l : Nat, l < 6 → (zi (b : Int) >>> (zi (l : Int) &&& 31)) &&& zi 1 = zi ((zbit b l : Nat) : Int) := by decide +kernel
theorem zbr_rg (n : Nat) (kd al : Nat → Int) (nc : Nat) (an c : Nat → Int) : ∀ w, 0 ≤ (zbr n kd al nc an c w).2 + 9 ∧ (zbr n kd al nc an c w).2 ≤ 6 := by
  intro w
  induction w with
  | zero => simp [zbr]
  | succ w ih =>
    have h := zpop_le (zwho (zdays n kd al nc an 9 ((zsa nc (c, 0, 1, w)).1, zz0)).1 2 n ||| zwho (zdays n kd al nc an 9 ((zsa nc (c, 0, 1, w)).1, zz0)).1 3 n)
    have h2 : zval n kd al nc an c w ≤ 6 := h
    rw [zbr_s]
    split
    · show 0 ≤ (zval n kd al nc an c w : Int) + 9 ∧ (zval n kd al nc an c w : Int) ≤ 6; omega
    · exact ih
theorem zsh_rg (n : Nat) (kd al : Nat → Int) (nc : Nat) (an c : Nat → Int) (l : Nat) : ∀ h, -9 ≤ (zsh n kd al nc an c l h).1 ∧ (zsh n kd al nc an c l h).1 ≤ h ∧ 0 ≤ (zsh n kd al nc an c l h).2 ∧ (zsh n kd al nc an c l h).2 ≤ 21 := by
  intro h
  induction h with
  | zero => simp [zsh]
  | succ h ih =>
    have h2 := zdt_rg (n := n) (nc := nc) (kd := kd) (al := al) (an := an) l 21 0 (zu1 c l h, zz0) (by omega)
    rw [zsh_s]
    split
    · refine ⟨?_, ?_, h2.1, h2.2⟩
      · show -9 ≤ (h : Int); omega
      · show (h : Int) ≤ ((h + 1 : Nat) : Int); omega
    · omega
-- then, in one form
def zTh (μ : zMem) (x y : Nat → Int) : zMem := zup (zup μ 26 x) 27 y
def zSc (μ : zMem) (X : Int) : Int → zMem → Prop := fun r ν => r = X ∧ ∃ x y, ν = zup (zup μ 26 x) 27 y
theorem ct_beLike2 (la : Launch) (g0 : zG) (ad : Nat → Nat) (μ : zMem) (x y : Nat → Int) : zCon la g0 yX1_beLike cX1_beLike 3 none 1 ad zSH [.ref (ad 25), .ref (ad 17)] (zup (zup μ 26 x) 27 y) (zPm (zup (zup μ 26 (μ 18)) 27 zz0)) := by
  have h := ct_beLike la g0 ad (zup (zup μ 26 x) 27 y)
  have e : zup (zup (zup (zup μ 26 x) 27 y) 26 ((zup (zup μ 26 x) 27 y) 18)) 27 (fun _ => 0) = zup (zup μ 26 (μ 18)) 27 zz0 := by
    rw [zup_sw _ (by decide), zup_sw _ (by decide)]; rfl
  rw [e] at h
  exact h
theorem ct_moveTo2 (la : Launch) (g0 : zG) (ad : Nat → Nat) (μ : zMem) (x y : Nat → Int) (l : Nat) (hl : l < 6) (v : Int) : zCon la g0 yX1_moveTo cX1_moveTo 3 none 0 ad zSH [.ref (ad 25), .int (zi ((l : Nat) : Int)), .int (zi v)] (zup (zup μ 26 x) 27 y) (zPm (zup (zup μ 26 (zu1 x l v)) 27 y)) := by
  have h := ct_moveTo_t la g0 ad (zup (zup μ 26 x) 27 y) l hl v
  have e : zup (zup (zup μ 26 x) 27 y) 26 (zu1 ((zup (zup μ 26 x) 27 y) 26) l v) = zup (zup μ 26 (zu1 x l v)) 27 y := by
    rw [zup_sw _ (by decide)]; rfl
  rw [e] at h
  exact h
theorem ct_sendTo2 (la : Launch) (g0 : zG) (ad : Nat → Nat) (μ : zMem) (x y : Nat → Int) (k : Nat) (hk : k < 3) (v : Int) : zCon la g0 yX1_sendTo cX1_sendTo 3 none 0 ad zSH [.ref (ad 25), .int (zi ((k : Nat) : Int)), .int (zi v)] (zup (zup μ 26 x) 27 y) (zPm (zup (zup μ 26 (zu1 x (18 + k) v)) 27 y)) := by
  have h := ct_sendTo_t la g0 ad (zup (zup μ 26 x) 27 y) k hk v
  have e : zup (zup (zup μ 26 x) 27 y) 26 (zu1 ((zup (zup μ 26 x) 27 y) 26) (18 + k) v) = zup (zup μ 26 (zu1 x (18 + k) v)) 27 y := by
    rw [zup_sw _ (by decide)]; rfl
  rw [e] at h
  exact h
theorem ct_addGrain2 (la : Launch) (g0 : zG) (ad : Nat → Nat) (μ : zMem) (x y : Nat → Int) (v : Int) (hv : 0 ≤ v ∧ v ≤ 9) (hg : 0 ≤ x 21 ∧ x 21 ≤ 99) : zCon la g0 yX1_addGrain cX1_addGrain 2 none 1 ad zSH [.ref (ad 25), .int (zi v)] (zup (zup μ 26 x) 27 y) (zPm (zup (zup μ 26 (zu1 x 21 (min 99 (x 21 + v)))) 27 y)) := by
  have h := ct_addGrain_t la g0 ad (zup (zup μ 26 x) 27 y) v hv hg
  have e : zup (zup (zup μ 26 x) 27 y) 26 (zu1 ((zup (zup μ 26 x) 27 y) 26) 21 (min 99 ((zup (zup μ 26 x) 27 y) 26 21 + v))) = zup (zup μ 26 (zu1 x 21 (min 99 (x 21 + v)))) 27 y := by
    rw [zup_sw _ (by decide)]; rfl
  rw [e] at h
  exact h
theorem ct_answer2 (la : Launch) (g0 : zG) (ad : Nat → Nat) (μ : zMem) (x y : Nat → Int) (l : Nat) (hl : l < 6) : zCon la g0 yX1_answer cX1_answer 2 none 0 ad zSH [.ref (ad 25), .int (zi ((l : Nat) : Int))] (zup (zup μ 26 x) 27 y) (zPm (zup (zup μ 26 (zu1 x (12 + l) 1)) 27 y)) := by
  have h := ct_answer la g0 ad (zup (zup μ 26 x) 27 y) l hl
  have e : zup (zup (zup μ 26 x) 27 y) 26 (zu1 ((zup (zup μ 26 x) 27 y) 26) (12 + l) 1) = zup (zup μ 26 (zu1 x (12 + l) 1)) 27 y := by
    rw [zup_sw _ (by decide)]; rfl
  rw [e] at h
  exact h
def zp3 : Nat → Nat
  | 0 => 1
  | k + 1 => zp3 k * 3
theorem zp3_le : ∀ k, k ≤ 3 → zp3 k ≤ 27 := by decide
