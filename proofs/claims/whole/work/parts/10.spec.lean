-- WHAT THE CLASS DOES, as functions of a hall's cells c (hole l, 6+l waited, 12+l fate, 18+k row, 21 grain, 22 day), kinds kd, waits alone al, answers an
def zwho (c : Nat → Int) (f : Int) : Nat → Nat
  | 0 => 0
  | l + 1 => if c (12 + l) = f then zwho c f l ||| 2 ^ l else zwho c f l
def zin (c : Nat → Int) (h : Int) : Nat → Nat
  | 0 => 0
  | l + 1 => if c l = h ∧ (c (12 + l) = 0 ∨ c (12 + l) = 2) then zin c h l ||| 2 ^ l else zin c h l
def zpop (x : Nat) : Nat := x % 2 + x / 2 % 2 + x / 4 % 2 + x / 8 % 2 + x / 16 % 2 + x / 32 % 2
def zpair (c : Nat → Int) (n : Nat) : Nat → Nat
  | 0 => 0
  | h + 1 => if 2 ≤ zpop (zin c h n &&& zwho c 2 n) then zpair c n h ||| 2 ^ h else zpair c n h
def zcnt (c : Nat → Int) (l : Nat) : Nat → Nat
  | 0 => 0
  | o + 1 => if o ≠ l ∧ c (12 + o) = 0 ∧ c o = c l then zcnt c l o + 1 else zcnt c l o
def zdl (n : Nat) (kd al c : Nat → Int) (l : Nat) : Int := if kd l = 3 then max 0 (al l - c (6 + l) + zcnt c l n) else max 0 (al l - c (6 + l))
def zmp (n : Nat) (kd al c : Nat → Int) (row : Int) : Nat → Int × Int
  | 0 => (-9, 0)
  | l + 1 => if c (12 + l) = 0 ∧ c l / 4 = row ∧ ((zmp n kd al c row l).1 = -9 ∨ zdl n kd al c l < (zmp n kd al c row l).2) then ((l : Int), zdl n kd al c l) else zmp n kd al c row l
abbrev zS : Type := (Nat → Int) × (Nat → Int)
def zca (n : Nat) (kd al : Nat → Int) (k : Nat) : Nat → zS → zS
  | 0, s => s
  | r + 1, s => if (zmp n kd al s.1 (s.1 (18 + k)) n).1 = -9 then s else zca n kd al k r (zu1 s.1 (12 + (zmp n kd al s.1 (s.1 (18 + k)) n).1.toNat) 1, zu1 s.2 k (s.2 k + 1))
def zcl (n : Nat) (kd al an : Nat → Int) : Nat → zS → zS
  | 0, s => s
  | k + 1, s => zca n kd al k (an k).toNat (zcl n kd al an k s)
def zwt (c : Nat → Int) : Nat → Nat → Int
  | 0 => c
  | l + 1 => if zwt c l (12 + l) = 0 then zu1 (zwt c l) (6 + l) (zwt c l (6 + l) + 1) else zwt c l
def zpo (c : Nat → Int) (h : Int) : Nat → Nat → Int
  | 0 => c
  | o + 1 => if zpo c h o (12 + o) = 0 ∧ zpo c h o o = h then zu1 (zpo c h o) o (h - 4) else zpo c h o
def zhat (n : Nat) (kd c : Nat → Int) (l : Nat) : Nat → Int := if kd l = 1 ∧ 4 ≤ c l then zpo (zu1 c (12 + l) 2) (c l) n else zu1 c (12 + l) 2
def zht (n : Nat) (kd al c : Nat → Int) : Nat → (Nat → Int) × Nat
  | 0 => (c, 0)
  | l + 1 => if (zht n kd al c l).1 (12 + l) = 0 ∧ zdl n kd al (zht n kd al c l).1 l = 0 then (zhat n kd (zht n kd al c l).1 l, (zht n kd al c l).2 + 1) else zht n kd al c l
def zeat (c : Nat → Int) : Nat → Nat → Int
  | 0 => c
  | l + 1 => if zeat c l (12 + l) = 2 then (if 0 < zeat c l 21 then zu1 (zeat c l) 21 (zeat c l 21 - 1) else zu1 (zeat c l) (12 + l) 3) else zeat c l
def zdayA (n : Nat) (kd al : Nat → Int) (nc : Nat) (an : Nat → Int) (s : zS) : (Nat → Int) × Nat := zht n kd al (zwt (zcl n kd al an nc s).1 n) n
def zday (n : Nat) (kd al : Nat → Int) (nc : Nat) (an : Nat → Int) (s : zS) : zS := (zu1 (zeat (zdayA n kd al nc an s).1 n) 22 (zeat (zdayA n kd al nc an s).1 n 22 + 1), (zcl n kd al an nc s).2)
def zdayM (n : Nat) (kd al : Nat → Int) (nc : Nat) (an : Nat → Int) (s : zS) : Nat := (zdayA n kd al nc an s).2
theorem zwho_s (c : Nat → Int) (f : Int) (l : Nat) : zwho c f (l + 1) = if c (12 + l) = f then zwho c f l ||| 2 ^ l else zwho c f l := rfl
theorem zin_s (c : Nat → Int) (h : Int) (l : Nat) : zin c h (l + 1) = if c l = h ∧ (c (12 + l) = 0 ∨ c (12 + l) = 2) then zin c h l ||| 2 ^ l else zin c h l := rfl
theorem zpair_s (c : Nat → Int) (n : Nat) (h : Nat) : zpair c n (h + 1) = if 2 ≤ zpop (zin c h n &&& zwho c 2 n) then zpair c n h ||| 2 ^ h else zpair c n h := rfl
theorem zcnt_s (c : Nat → Int) (l : Nat) (o : Nat) : zcnt c l (o + 1) = if o ≠ l ∧ c (12 + o) = 0 ∧ c o = c l then zcnt c l o + 1 else zcnt c l o := rfl
theorem zmp_s (n : Nat) (kd al c : Nat → Int) (row : Int) (l : Nat) : zmp n kd al c row (l + 1) = if c (12 + l) = 0 ∧ c l / 4 = row ∧ ((zmp n kd al c row l).1 = -9 ∨ zdl n kd al c l < (zmp n kd al c row l).2) then ((l : Int), zdl n kd al c l) else zmp n kd al c row l := rfl
theorem zca_s (n : Nat) (kd al : Nat → Int) (k : Nat) (r : Nat) (s : zS) : zca n kd al k (r + 1) s = if (zmp n kd al s.1 (s.1 (18 + k)) n).1 = -9 then s else zca n kd al k r (zu1 s.1 (12 + (zmp n kd al s.1 (s.1 (18 + k)) n).1.toNat) 1, zu1 s.2 k (s.2 k + 1)) := rfl
theorem zcl_s (n : Nat) (kd al an : Nat → Int) (k : Nat) (s : zS) : zcl n kd al an (k + 1) s = zca n kd al k (an k).toNat (zcl n kd al an k s) := rfl
theorem zwt_s (c : Nat → Int) (l : Nat) : zwt c (l + 1) = if zwt c l (12 + l) = 0 then zu1 (zwt c l) (6 + l) (zwt c l (6 + l) + 1) else zwt c l := rfl
theorem zpo_s (c : Nat → Int) (h : Int) (o : Nat) : zpo c h (o + 1) = if zpo c h o (12 + o) = 0 ∧ zpo c h o o = h then zu1 (zpo c h o) o (h - 4) else zpo c h o := rfl
theorem zht_s (n : Nat) (kd al c : Nat → Int) (l : Nat) : zht n kd al c (l + 1) = if (zht n kd al c l).1 (12 + l) = 0 ∧ zdl n kd al (zht n kd al c l).1 l = 0 then (zhat n kd (zht n kd al c l).1 l, (zht n kd al c l).2 + 1) else zht n kd al c l := rfl
theorem zeat_s (c : Nat → Int) (l : Nat) : zeat c (l + 1) = if zeat c l (12 + l) = 2 then (if 0 < zeat c l 21 then zu1 (zeat c l) 21 (zeat c l 21 - 1) else zu1 (zeat c l) (12 + l) 3) else zeat c l := rfl
-- a plan and a hall that can be
def zPlan (μ : zMem) (n nc : Nat) : Prop := μ 10 0 = (n : Int) ∧ n ≤ 6 ∧ μ 10 1 = (nc : Int) ∧ nc ≤ 3 ∧ (∀ l, l < n → 0 ≤ μ 13 l ∧ μ 13 l ≤ 3 ∧ 1 ≤ μ 14 l ∧ μ 14 l ≤ 9) ∧ ∀ k, k < nc → 1 ≤ μ 16 k ∧ μ 16 k ≤ 3
def zHW (n nc : Nat) (c : Nat → Int) : Prop := (∀ l, l < n → 0 ≤ c l ∧ c l < 12 ∧ 0 ≤ c (12 + l) ∧ c (12 + l) ≤ 3 ∧ 0 ≤ c (6 + l) ∧ c (6 + l) ≤ 15) ∧ (∀ k, k < nc → 0 ≤ c (18 + k) ∧ c (18 + k) ≤ 3) ∧ 0 ≤ c 21 ∧ c 21 ≤ 99
def zHV (n nc : Nat) (c : Nat → Int) : Prop := zHW n nc c ∧ ∀ l, l < n → c (12 + l) = 0 → c (6 + l) ≤ 14
theorem zwho_lt (c : Nat → Int) (f : Int) : ∀ l, zwho c f l < 2 ^ l := by
  intro l
  induction l with
  | zero => simp [zwho]
  | succ l ih =>
    have h2 : zwho c f l < 2 ^ (l + 1) := Nat.lt_trans ih (Nat.pow_lt_pow_right (by decide) (by omega))
    unfold zwho
    split
    · exact Nat.or_lt_two_pow h2 (Nat.pow_lt_pow_right (by decide) (by omega))
    · exact h2
theorem zin_lt (c : Nat → Int) (f : Int) : ∀ l, zin c f l < 2 ^ l := by
  intro l
  induction l with
  | zero => simp [zin]
  | succ l ih =>
    have h2 : zin c f l < 2 ^ (l + 1) := Nat.lt_trans ih (Nat.pow_lt_pow_right (by decide) (by omega))
    unfold zin
    split
    · exact Nat.or_lt_two_pow h2 (Nat.pow_lt_pow_right (by decide) (by omega))
    · exact h2
theorem z64 {x l : Nat} (h : x < 2 ^ l) (hl : l ≤ 6) : x < 64 := Nat.lt_of_lt_of_le h (Nat.pow_le_pow_right (n := 2) (by decide) hl)
theorem zpop_le (x : Nat) : zpop x ≤ 6 := by unfold zpop; omega
theorem zcnt_le (c : Nat → Int) (l : Nat) : ∀ o, zcnt c l o ≤ o := by
  intro o
  induction o with
  | zero => simp [zcnt]
  | succ o ih => unfold zcnt; split <;> omega
