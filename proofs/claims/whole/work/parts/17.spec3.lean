-- doings, years, shares, rests, fractions
def zcpI (n : Nat) (c : Nat → Int) (x y : Int) : Int := if (0 ≤ x ∧ x < (n : Int)) ∧ (0 ≤ y ∧ y < 12) ∧ c (12 + x.toNat) = 0 ∧ c x.toNat ≠ y ∧ zpop (zin c y n) < 2 then 1 else 0
def zcsI (nc : Nat) (c : Nat → Int) (x y : Int) : Int := if (0 ≤ x ∧ x < (nc : Int)) ∧ (0 ≤ y ∧ y < 3) ∧ c (18 + x.toNat) ≠ y then 1 else 0
theorem zcpI_ne {n : Nat} {c : Nat → Int} {x y : Int} (h : ¬ zcpI n c x y = 0) : (0 ≤ x ∧ x < (n : Int)) ∧ (0 ≤ y ∧ y < 12) ∧ c (12 + x.toNat) = 0 ∧ c x.toNat ≠ y ∧ zpop (zin c y n) < 2 := by
  unfold zcpI at h
  split at h
  · assumption
  · exact absurd rfl h
theorem zcsI_ne {nc : Nat} {c : Nat → Int} {x y : Int} (h : ¬ zcsI nc c x y = 0) : (0 ≤ x ∧ x < (nc : Int)) ∧ (0 ≤ y ∧ y < 3) ∧ c (18 + x.toNat) ≠ y := by
  unfold zcsI at h
  split at h
  · assumption
  · exact absurd rfl h
theorem zcpI_rg (n : Nat) (c : Nat → Int) (x y : Int) : zcpI n c x y = 0 ∨ zcpI n c x y = 1 := by unfold zcpI; split <;> omega
theorem zcsI_rg (n : Nat) (c : Nat → Int) (x y : Int) : zcsI n c x y = 0 ∨ zcsI n c x y = 1 := by unfold zcsI; split <;> omega
def zputC (n : Nat) (c : Nat → Int) (x y : Int) : Nat → Int := if zcpI n c x y = 0 then c else zu1 c x.toNat y
def zsndC (nc : Nat) (c : Nat → Int) (x y : Int) : Nat → Int := if zcsI nc c x y = 0 then c else zu1 c (18 + x.toNat) y
theorem zputC_ok {n nc : Nat} {c : Nat → Int} (hn : n ≤ 6) (h : zHV n nc c) (x y : Int) : zHV n nc (zputC n c x y) := by
  unfold zputC
  split
  · exact h
  · rename_i hc
    have h1 := zcpI_ne hc
    exact zHV_hole hn h (by omega) (by omega)
theorem zsndC_ok {n nc : Nat} {c : Nat → Int} (hn : n ≤ 6) (hc3 : nc ≤ 3) (h : zHV n nc c) (x y : Int) : zHV n nc (zsndC nc c x y) := by
  unfold zsndC
  split
  · exact h
  · rename_i hc
    have h1 := zcsI_ne hc
    exact zHV_row hn hc3 h (by omega) (by omega)
def zdo (n : Nat) (kd al : Nat → Int) (nc : Nat) (an : Nat → Int) (D : Nat) (s : zS) : zS × Int :=
  if D = 0 then (zday n kd al nc an s, 1)
  else if D / 1000 = 1 then ((zputC n s.1 ((D / 100 % 10 : Nat) : Int) ((D % 100 : Nat) : Int), s.2), zcpI n s.1 ((D / 100 % 10 : Nat) : Int) ((D % 100 : Nat) : Int))
  else if D / 1000 = 2 then (if D / 100 % 10 = 0 ∧ D / 10 % 10 = 0 ∧ D % 10 ≠ 0 then ((zu1 s.1 21 (min 99 (s.1 21 + ((D % 10 : Nat) : Int))), s.2), 1) else (s, 0))
  else if D / 1000 = 3 then (if D / 10 % 10 = 0 then ((zsndC nc s.1 ((D / 100 % 10 : Nat) : Int) ((D % 10 : Nat) : Int), s.2), zcsI nc s.1 ((D / 100 % 10 : Nat) : Int) ((D % 10 : Nat) : Int)) else (s, 0))
  else if D / 1000 = 4 then (s, if D / 10 % 10 = 0 ∧ D / 100 % 10 < n ∧ s.1 (12 + D / 100 % 10) = ((D % 10 : Nat) : Int) then 1 else 0)
  else (s, 0)
theorem zdo_ok {n nc : Nat} {kd al an : Nat → Int} (hp : zPK n nc kd al an) (D : Nat) {s : zS} (h : zHV n nc s.1) : zHV n nc (zdo n kd al nc an D s).1.1 ∧ ((zdo n kd al nc an D s).2 = 0 ∨ (zdo n kd al nc an D s).2 = 1) := by
  unfold zdo
  split
  · exact ⟨zday_ok hp h, Or.inr rfl⟩
  · split
    · exact ⟨zputC_ok hp.1 h _ _, zcpI_rg _ _ _ _⟩
    · split
      · split
        · have h4 := h.1.2.2
          refine ⟨zHV_grain hp.1 hp.2.1 h ?_, Or.inr rfl⟩
          omega
        · exact ⟨h, Or.inl rfl⟩
      · split
        · split
          · exact ⟨zsndC_ok hp.1 hp.2.1 h _ _, zcsI_rg _ _ _ _⟩
          · exact ⟨h, Or.inl rfl⟩
        · split
          · refine ⟨h, ?_⟩
            show (if _ then (1 : Int) else 0) = 0 ∨ (if _ then (1 : Int) else 0) = 1
            split
            · exact Or.inr rfl
            · exact Or.inl rfl
          · exact ⟨h, Or.inl rfl⟩
def zju (n : Nat) (kd al : Nat → Int) (nc : Nat) (an : Nat → Int) (f : Nat → Int) : Nat → Nat → zS → Int
  | 0, _, _ => -9
  | r + 1, i, s => if (zdo n kd al nc an (f i).toNat s).2 = 0 then (i : Int) else zju n kd al nc an f r (i + 1) (zdo n kd al nc an (f i).toNat s).1
theorem zju_s (n : Nat) (kd al : Nat → Int) (nc : Nat) (an : Nat → Int) (f : Nat → Int) (r i : Nat) (s : zS) : zju n kd al nc an f (r + 1) i s = if (zdo n kd al nc an (f i).toNat s).2 = 0 then (i : Int) else zju n kd al nc an f r (i + 1) (zdo n kd al nc an (f i).toNat s).1 := rfl
def zfd : Nat → (Nat → Int) × Nat → (Nat → Int) × Nat
  | 0, s => s
  | i + 1, s => zfd i (zu1 s.1 i ((s.2 % 10000 : Nat) : Int), s.2 / 10000)
theorem zfd_s (i : Nat) (s : (Nat → Int) × Nat) : zfd (i + 1) s = zfd i (zu1 s.1 i ((s.2 % 10000 : Nat) : Int), s.2 / 10000) := rfl
def zhap (n : Nat) (kd al : Nat → Int) (nc : Nat) (an : Nat → Int) (w : Nat) (s : zS) : zS :=
  if w < 12 then (zputC n s.1 0 (w : Int), s.2) else if w < 15 then (zsndC nc s.1 0 ((w : Int) - 12), s.2) else if w = 15 then (zu1 s.1 21 (min 99 (s.1 21 + 1)), s.2) else zday n kd al nc an s
theorem zhap_ok {n nc : Nat} {kd al an : Nat → Int} (hp : zPK n nc kd al an) (w : Nat) {s : zS} (h : zHV n nc s.1) : zHV n nc (zhap n kd al nc an w s).1 := by
  unfold zhap
  split
  · exact zputC_ok hp.1 h _ _
  · split
    · exact zsndC_ok hp.1 hp.2.1 h _ _
    · split
      · have h4 := h.1.2.2
        exact zHV_grain hp.1 hp.2.1 h (by omega)
      · exact zday_ok hp h
def zrnd (x : Int) : Int := x * 6364136223846793005 + 1442695040888963407
def zpick (x : Int) : Nat := (x % 18446744073709551616 / 8589934592 % 24).toNat
def zyr (n : Nat) (kd al : Nat → Int) (nc : Nat) (an : Nat → Int) (s : zS) (x : Int) : Nat → zS × Int × Nat
  | 0 => (s, x, 0)
  | i + 1 => (zhap n kd al nc an (zpick (zrnd (zyr n kd al nc an s x i).2.1)) (zyr n kd al nc an s x i).1, zrnd (zyr n kd al nc an s x i).2.1, (zyr n kd al nc an s x i).2.2 + zpop (zwho (zhap n kd al nc an (zpick (zrnd (zyr n kd al nc an s x i).2.1)) (zyr n kd al nc an s x i).1).1 2 n))
theorem zyr_s (n : Nat) (kd al : Nat → Int) (nc : Nat) (an : Nat → Int) (s : zS) (x : Int) (i : Nat) : zyr n kd al nc an s x (i + 1) = (zhap n kd al nc an (zpick (zrnd (zyr n kd al nc an s x i).2.1)) (zyr n kd al nc an s x i).1, zrnd (zyr n kd al nc an s x i).2.1, (zyr n kd al nc an s x i).2.2 + zpop (zwho (zhap n kd al nc an (zpick (zrnd (zyr n kd al nc an s x i).2.1)) (zyr n kd al nc an s x i).1).1 2 n)) := rfl
theorem zyr_ok {n nc : Nat} {kd al an : Nat → Int} (hp : zPK n nc kd al an) {s : zS} (h : zHV n nc s.1) (x : Int) : ∀ i, zHV n nc (zyr n kd al nc an s x i).1.1 := by
  intro i
  induction i with
  | zero => exact h
  | succ i ih => exact zhap_ok hp _ ih
theorem zl_ushr (x : Int) : ((zl x).toUInt64 >>> ((zi 33).toInt64.toUInt64 &&& Int64.toUInt64 63)).toInt64 = zl (x % 18446744073709551616 / 8589934592) := by
  have h1 : (zi 33).toInt64.toUInt64 &&& Int64.toUInt64 63 = 33 := by decide
  rw [h1]
  apply Int64.toBitVec_inj.mp
  apply BitVec.eq_of_toNat_eq
  show ((zl x).toUInt64 >>> (33 : UInt64)).toNat = (zl (x % 18446744073709551616 / 8589934592)).toBitVec.toNat
  have h2 : (zl x).toUInt64.toNat = (x % 18446744073709551616).toNat := by
    show (BitVec.ofInt 64 x).toNat = _
    rw [BitVec.toNat_ofInt]
    rfl
  rw [UInt64.toNat_shiftRight, h2]
  show _ >>> (33 % 64) = (BitVec.ofInt 64 (x % 18446744073709551616 / 8589934592)).toNat
  rw [BitVec.toNat_ofInt, Nat.shiftRight_eq_div_pow]
  show (x % 18446744073709551616).toNat / 8589934592 = (x % 18446744073709551616 / 8589934592 % 18446744073709551616).toNat
  omega
def zfac : Nat → Nat
  | 0 => 1
  | k + 1 => (k + 1) * zfac k
def zaw (c : Nat → Int) (b : Nat) : Nat → Nat → Int
  | 0 => c
  | k + 1 => if zbit b k = 0 then zu1 (zaw c b k) (18 + k) 3 else zaw c b k
theorem zaw_s (c : Nat → Int) (b k : Nat) : zaw c b (k + 1) = if zbit b k = 0 then zu1 (zaw c b k) (18 + k) 3 else zaw c b k := rfl
theorem zaw_ok {n nc : Nat} {c : Nat → Int} (hn : n ≤ 6) (hc : nc ≤ 3) (h : zHV n nc c) (b : Nat) : ∀ k, k ≤ nc → zHV n nc (zaw c b k) := by
  intro k
  induction k with
  | zero => intro _; exact h
  | succ k ih =>
    intro hk
    rw [zaw_s]
    split
    · exact zHV_row hn hc (ih (by omega)) (by omega) ⟨by decide, by decide⟩
    · exact ih (by omega)
def zlw (n : Nat) (kd al : Nat → Int) (nc : Nat) (an c : Nat → Int) (b : Nat) : Nat := zlost n (zdays n kd al nc an 9 (zaw c b nc, zz0)).1
def zsw (nc k b : Nat) : Nat := zfac (zpop b) * zfac (nc - 1 - zpop b)
def zsr (g : Nat → Int) (nc k : Nat) : Nat → Int × Nat
  | 0 => (0, 0)
  | b + 1 => if zbit b k = 0 then ((zsr g nc k b).1 + (zsw nc k b : Int) * (g b - g (b ||| 2 ^ k)), (zsr g nc k b).2 + zsw nc k b) else zsr g nc k b
theorem zsr_s (g : Nat → Int) (nc k b : Nat) : zsr g nc k (b + 1) = if zbit b k = 0 then ((zsr g nc k b).1 + (zsw nc k b : Int) * (g b - g (b ||| 2 ^ k)), (zsr g nc k b).2 + zsw nc k b) else zsr g nc k b := rfl
-- Euclid
def zeu : Nat → Nat → Nat → Nat × Nat
  | 0, a, b => (a, b)
  | i + 1, a, b => if b = 0 then (a, b) else zeu i b (a % b)
theorem zeu_s (i a b : Nat) : zeu (i + 1) a b = if b = 0 then (a, b) else zeu i b (a % b) := rfl
theorem zeu_gcd : ∀ (i a b : Nat), Nat.gcd (zeu i a b).1 (zeu i a b).2 = Nat.gcd a b := by
  intro i
  induction i with
  | zero => intro a b; rfl
  | succ i ih =>
    intro a b
    rw [zeu_s]
    split
    · rfl
    · rw [ih, Nat.gcd_comm a b, Nat.gcd_rec b a]
      exact Nat.gcd_comm _ _
theorem zeu_end : ∀ (k a b : Nat), b < 2 ^ k → (zeu (2 * k) a b).2 = 0 := by
  intro k
  induction k with
  | zero => intro a b h; have : b = 0 := by simpa using h
            subst this; rfl
  | succ k ih =>
    intro a b h
    rw [show 2 * (k + 1) = (2 * k + 1) + 1 by omega, zeu_s]
    split
    · assumption
    · rename_i hb
      rw [zeu_s]
      split
      · assumption
      · rename_i hr
        apply ih
        have h1 : a % b < b := Nat.mod_lt _ (by omega)
        have h2 : b % (a % b) < a % b := Nat.mod_lt _ (by omega)
        have h3 : b % (a % b) + (a % b) ≤ b := by
          have := Nat.mod_add_div b (a % b)
          have h5 : 1 ≤ b / (a % b) := (Nat.le_div_iff_mul_le (by omega)).mpr (by omega)
          have h6 : a % b ≤ a % b * (b / (a % b)) := Nat.le_mul_of_pos_right _ h5
          omega
        rw [Nat.pow_succ] at h
        omega
theorem zeu_stay : ∀ (i a : Nat), zeu i a 0 = (a, 0) := by
  intro i a
  cases i
  · rfl
  · rw [zeu_s, if_pos rfl]
theorem zeu_64 {a b : Nat} (hb : b < 2 ^ 31) : zeu 64 a b = (Nat.gcd a b, 0) := by
  have key : ∀ (i j a b : Nat), zeu (i + j) a b = zeu j (zeu i a b).1 (zeu i a b).2 := by
    intro i
    induction i with
    | zero => intro j a b; rw [Nat.zero_add]; rfl
    | succ i ih =>
      intro j a b
      rw [show i + 1 + j = (i + j) + 1 by omega, zeu_s, zeu_s]
      split
      · rename_i h; subst h; rw [zeu_stay]
      · exact ih j b (a % b)
  have h1 := key 62 2 a b
  have h2 := zeu_end 31 a b hb
  have h3 := zeu_gcd 62 a b
  rw [h2, Nat.gcd_zero_right] at h3
  rw [h1, h2, zeu_stay, h3]
def zpart (U : Int) (W : Nat) (q : Int) : Int := if q = 0 then (W : Int).tdiv (Nat.gcd U.natAbs W) else U.tdiv (Nat.gcd U.natAbs W)
