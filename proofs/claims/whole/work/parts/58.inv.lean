/-! THE TWO SIDES TIED: one invariant of the memory -/
def zTx (μ : zMem) (t : Nat) : Prop := μ 1 1 = (t : Int) ∧ t ≤ 48 ∧ μ 39 2 = (t : Int) ∧ (∀ i, i < t → μ 40 i = μ 2 i) ∧ ∀ i, i < 48 → 0 ≤ μ 40 i ∧ μ 40 i ≤ 255
def zPn (μ : zMem) (n nc : Nat) : Prop := zPlan μ n nc ∧ zMP μ n nc (μ 13) (μ 14) (μ 12) (μ 16)
def zHl (n nc : Nat) (p c : Nat → Int) : Prop := zHV n nc c ∧ zAg n nc 7 p c
def zEn (n nc : Nat) (u : Nat → Int) (a : Nat) (w : Nat → Int) (b : Nat) : Prop := zHl n nc (fun j => u (a + j)) (fun j => w (b + j))
def zPa (n nc f k : Nat) (h28 h29 h30 h39 h48 : Nat → Int) : Prop := h28 1 = (f : Int) ∧ f < 14 ∧ h28 2 = (k : Int) ∧ k ≤ 14 ∧ h29 0 = 14 ∧ h39 17 = (k : Int) ∧ ∀ i, i < k → zEn n nc h48 (23 * i) h30 ((f + i) % 14 * 23)
def zSl (n nc : Nat) (h31 h32 h33 h49 h50 : Nat → Int) : Prop := h31 0 = 2 ∧ ∀ i, i < 2 → (h33 i = 0 ∧ h50 i = 0) ∨ (h33 i = 1 ∧ h50 i = 1 ∧ zEn n nc h49 (23 * i) h32 (i * 23))
def zTd (td : Nat) (h34 h35 h36 h39 h51 h52 : Nat → Int) : Prop := h34 2 = (td : Int) ∧ td ≤ 6 ∧ h39 20 = (td : Int) ∧ ∀ i, i < td → h51 i = h35 i ∧ h52 i = h36 i ∧ 0 ≤ h35 i ∧ h35 i ≤ 9 ∧ (h36 i = 0 ∨ h36 i = 1)
def zI (μ : zMem) (n nc t f k td : Nat) : Prop := zTx μ t ∧ zPn μ n nc ∧ zHl n nc (μ 46) (μ 18) ∧ zPa n nc f k (μ 28) (μ 29) (μ 30) (μ 39) (μ 48) ∧ zSl n nc (μ 31) (μ 32) (μ 33) (μ 49) (μ 50) ∧ zTd td (μ 34) (μ 35) (μ 36) (μ 39) (μ 51) (μ 52) ∧ μ 39 23 = μ 0 9
def zInv (μ : zMem) : Prop := ∃ n nc t f k td, zI μ n nc t f k td
-- congruence
theorem zHV_cg {n nc : Nat} {c e : Nat → Int} (hn : n ≤ 6) (hc : nc ≤ 3) (h : ∀ j, j < 23 → e j = c j) (q : zHV n nc c) : zHV n nc e := by
  obtain ⟨⟨q1, q2, q3, q4⟩, q5⟩ := q
  refine ⟨⟨fun l hl => ?_, fun k hk => ?_, ?_, ?_⟩, fun l hl h0 => ?_⟩
  · rw [h l (by omega), h (12 + l) (by omega), h (6 + l) (by omega)]; exact q1 l hl
  · rw [h (18 + k) (by omega)]; exact q2 k hk
  · rw [h 21 (by omega)]; exact q3
  · rw [h 21 (by omega)]; exact q4
  · rw [h (12 + l) (by omega)] at h0
    rw [h (6 + l) (by omega)]; exact q5 l hl h0
theorem zAg_cg {n nc S : Nat} {p p2 c e : Nat → Int} (hn : n ≤ 6) (hc : nc ≤ 3) (hp : ∀ j, j < 23 → p2 j = p j) (h : ∀ j, j < 23 → e j = c j) (q : zAg n nc S p c) : zAg n nc S p2 e := by
  obtain ⟨q1, q2, q3, q4⟩ := q
  refine ⟨fun l hl => ?_, fun k hk => ?_, ?_, ?_⟩
  · rw [h l (by omega), h (12 + l) (by omega), h (6 + l) (by omega), hp l (by omega), hp (12 + l) (by omega), hp (6 + l) (by omega)]; exact q1 l hl
  · rw [h (18 + k) (by omega), hp (18 + k) (by omega)]; exact q2 k hk
  · rw [h 21 (by omega), hp 21 (by omega)]; exact q3
  · rw [h 22 (by omega), hp 22 (by omega)]; exact q4
theorem zHl_cg {n nc : Nat} {p p2 c e : Nat → Int} (hn : n ≤ 6) (hc : nc ≤ 3) (hp : ∀ j, j < 23 → p2 j = p j) (h : ∀ j, j < 23 → e j = c j) (q : zHl n nc p c) : zHl n nc p2 e := ⟨zHV_cg hn hc h q.1, zAg_cg hn hc hp h q.2⟩
theorem zTx_cg {μ ν : zMem} {t : Nat} (h1 : ν 1 = μ 1) (h2 : ν 2 = μ 2) (h40 : ν 40 = μ 40) (h39 : ν 39 2 = μ 39 2) (q : zTx μ t) : zTx ν t := by
  unfold zTx; rw [h1, h2, h40, h39]; exact q
theorem zPn_cg {μ ν : zMem} {n nc : Nat} (h10 : ν 10 = μ 10) (h12 : ν 12 = μ 12) (h13 : ν 13 = μ 13) (h14 : ν 14 = μ 14) (h16 : ν 16 = μ 16) (h41 : ν 41 = μ 41) (h42 : ν 42 = μ 42) (h43 : ν 43 = μ 43) (h394 : ν 39 4 = μ 39 4) (h397 : ν 39 7 = μ 39 7) (q : zPn μ n nc) : zPn ν n nc := by
  unfold zPn zPlan zMP; rw [h10, h12, h13, h14, h16, h41, h42, h43, h394, h397]; exact q
theorem zPa_cg {n nc f k : Nat} {h28 h29 h30 h39 h48 g : Nat → Int} (e : g 17 = h39 17) (q : zPa n nc f k h28 h29 h30 h39 h48) : zPa n nc f k h28 h29 h30 g h48 := by
  unfold zPa; rw [e]; exact q
theorem zTd_cg {td : Nat} {h34 h35 h36 h39 h51 h52 g : Nat → Int} (e : g 20 = h39 20) (q : zTd td h34 h35 h36 h39 h51 h52) : zTd td h34 h35 h36 g h51 h52 := by
  unfold zTd; rw [e]; exact q
theorem zI_q {μ ν : zMem} {n nc t f k td : Nat} (q : zI μ n nc t f k td) (h : ∀ q, ¬ zScr q → ν q = μ q) : zI ν n nc t f k td := by
  obtain ⟨q1, q2, q3, q4, q5, q6, q7⟩ := q
  have e : ∀ j, ¬ ((3 ≤ j ∧ j ≤ 9) ∨ (19 ≤ j ∧ j ≤ 27) ∨ j = 38) → ν j = μ j := h
  refine ⟨zTx_cg (e 1 (by omega)) (e 2 (by omega)) (e 40 (by omega)) (by rw [e 39 (by omega)]) q1, zPn_cg (e 10 (by omega)) (e 12 (by omega)) (e 13 (by omega)) (e 14 (by omega)) (e 16 (by omega)) (e 41 (by omega)) (e 42 (by omega)) (e 43 (by omega)) (by rw [e 39 (by omega)]) (by rw [e 39 (by omega)]) q2, ?_, ?_, ?_, ?_, ?_⟩
  · rw [e 46 (by omega), e 18 (by omega)]; exact q3
  · rw [e 28 (by omega), e 29 (by omega), e 30 (by omega), e 39 (by omega), e 48 (by omega)]; exact q4
  · rw [e 31 (by omega), e 32 (by omega), e 33 (by omega), e 49 (by omega), e 50 (by omega)]; exact q5
  · rw [e 34 (by omega), e 35 (by omega), e 36 (by omega), e 39 (by omega), e 51 (by omega), e 52 (by omega)]; exact q6
  · rw [e 39 (by omega), e 0 (by omega)]; exact q7
theorem zI_fr {μ ν : zMem} {n nc t f k td : Nat} (q : zI μ n nc t f k td) (h : zFr μ ν) : zI ν n nc t f k td := by
  obtain ⟨q1, q2, q3, q4, q5, q6, q7⟩ := q
  have e : ∀ j, j ≠ 39 → ¬ (j = 44 ∨ j = 45 ∨ j = 47 ∨ j = 53 ∨ j = 54 ∨ j = 55) → ν j = μ j := h.1
  have e2 := h.2 2 (by decide)
  have e4 := h.2 4 (by decide)
  have e7 := h.2 7 (by decide)
  have e17 := h.2 17 (by decide)
  have e20 := h.2 20 (by decide)
  have e23 := h.2 23 (by decide)
  refine ⟨zTx_cg (e 1 (by omega) (by omega)) (e 2 (by omega) (by omega)) (e 40 (by omega) (by omega)) e2 q1, zPn_cg (e 10 (by omega) (by omega)) (e 12 (by omega) (by omega)) (e 13 (by omega) (by omega)) (e 14 (by omega) (by omega)) (e 16 (by omega) (by omega)) (e 41 (by omega) (by omega)) (e 42 (by omega) (by omega)) (e 43 (by omega) (by omega)) e4 e7 q2, ?_, ?_, ?_, ?_, ?_⟩
  · rw [e 46 (by omega) (by omega), e 18 (by omega) (by omega)]; exact q3
  · rw [e 28 (by omega) (by omega), e 29 (by omega) (by omega), e 30 (by omega) (by omega), e 48 (by omega) (by omega)]; exact zPa_cg e17 q4
  · rw [e 31 (by omega) (by omega), e 32 (by omega) (by omega), e 33 (by omega) (by omega), e 49 (by omega) (by omega), e 50 (by omega) (by omega)]; exact q5
  · rw [e 34 (by omega) (by omega), e 35 (by omega) (by omega), e 36 (by omega) (by omega), e 51 (by omega) (by omega), e 52 (by omega) (by omega)]; exact zTd_cg e20 q6
  · rw [e23, e 0 (by omega) (by omega)]; exact q7
/-- one call of the law: the class's, then the reference's, with one answer -/
def zStI (la : Launch) (g0 : zG) (ad : Nat → Nat) (μ : zMem) (y1 : MethodName) (c1 : ByteArray) (m1 d1 : Nat) (as1 : List Value) (y2 : MethodName) (c2 : ByteArray) (m2 d2 : Nat) (as2 : List Value) : Prop :=
  ∃ Po1, zCon la g0 y1 c1 m1 (some .int) d1 ad zSH (.ref (ad 0) :: as1) μ Po1 ∧ ∀ v ν, Po1 v ν → ∃ (r : Int32) (Po2 : Option Value → zMem → Prop), v = some (.int r) ∧ zCon la g0 y2 c2 m2 (some .int) d2 ad zSH (.ref (ad 39) :: as2) ν Po2 ∧ ∀ v2 ν2, Po2 v2 ν2 → v2 = some (.int r) ∧ zInv ν2
section ZST
variable {la : Launch} {g0 : zG} {ad : Nat → Nat} {μ : zMem} {y1 : MethodName} {c1 : ByteArray} {m1 d1 : Nat} {as1 : List Value} {y2 : MethodName} {c2 : ByteArray} {m2 d2 : Nat} {as2 : List Value} {n nc t f k td : Nat} {X : Int}
theorem st_qu (hI : zI μ n nc t f k td) (C1 : zCon la g0 y1 c1 m1 (some .int) d1 ad zSH (.ref (ad 0) :: as1) μ (zPi (zQu μ X)))
    (C2 : ∀ ν, zMP ν n nc (μ 13) (μ 14) (μ 12) (μ 16) → zAg n nc 7 (ν 46) (μ 18) → zI ν n nc t f k td → (∀ q, ¬ zScr q → ν q = μ q) → zCon la g0 y2 c2 m2 (some .int) d2 ad zSH (.ref (ad 39) :: as2) ν (zPi (zQm ν X))) : zStI la g0 ad μ y1 c1 m1 d1 as1 y2 c2 m2 d2 as2 := by
  refine ⟨_, C1, fun v ν h => ?_⟩
  obtain ⟨r, rfl, rfl, hf⟩ := h
  have hI2 := zI_q hI hf
  have e : ∀ j, ¬ ((3 ≤ j ∧ j ≤ 9) ∨ (19 ≤ j ∧ j ≤ 27) ∨ j = 38) → ν j = μ j := hf
  refine ⟨zi r, _, rfl, C2 ν ?_ ?_ hI2 hf, fun v2 ν2 h2 => ?_⟩
  · have := hI2.2.1.2
    rw [e 13 (by omega), e 14 (by omega), e 12 (by omega), e 16 (by omega)] at this
    exact this
  · have := hI2.2.2.1.2
    rw [e 18 (by omega)] at this
    exact this
  · obtain ⟨r2, rfl, rfl, hfr⟩ := h2
    exact ⟨rfl, n, nc, t, f, k, td, zI_fr hI2 hfr⟩
theorem st_qd (hI : zI μ n nc t f k td) (C1 : zCon la g0 y1 c1 m1 (some .int) d1 ad zSH (.ref (ad 0) :: as1) μ (zPd μ X))
    (C2 : zCon la g0 y2 c2 m2 (some .int) d2 ad zSH (.ref (ad 39) :: as2) μ (zPi (zQm μ X))) : zStI la g0 ad μ y1 c1 m1 d1 as1 y2 c2 m2 d2 as2 := by
  refine ⟨_, C1, fun v ν h => ?_⟩
  obtain ⟨rfl, rfl⟩ := h
  refine ⟨zi X, _, rfl, C2, fun v2 ν2 h2 => ?_⟩
  obtain ⟨r2, rfl, rfl, hfr⟩ := h2
  exact ⟨rfl, n, nc, t, f, k, td, zI_fr hI hfr⟩
end ZST
-- texts that agree
theorem zpre_cg {y x : Nat → Int} : ∀ t, (∀ i, i < t → y i = x i) → zpre y t = zpre x t := by
  intro t
  induction t with
  | zero => intro _; rfl
  | succ t ih => intro h; rw [zpre_s, zpre_s, ih (fun i hi => h i (by omega)), h t (by omega)]
theorem zflt_cg {y x : Nat → Int} {t : Nat} (h : ∀ i, i < t → y i = x i) : ∀ r j, j + r = t → zflt y t r j = zflt x t r j := by
  intro r
  induction r with
  | zero => intro j _; show (if (zpre y t).1 = 2 then (-9 : Int) else (t : Int)) = (if (zpre x t).1 = 2 then (-9 : Int) else (t : Int)); rw [zpre_cg t h]
  | succ r ih => intro j hj; rw [zflt_s, zflt_s, zpre_cg (j + 1) (fun i hi => h i (by omega)), ih (j + 1) (by omega)]
theorem zfault_cg {y x : Nat → Int} {t : Nat} (h : ∀ i, i < t → y i = x i) : zfault y t = zfault x t := zflt_cg h t 0 (by omega)
theorem zfit_cg {dy ha dy2 ha2 : Nat → Int} (x : Int) : ∀ t, (∀ i, i < t → dy i = dy2 i ∧ ha i = ha2 i) → zfit dy ha x t = zfit dy2 ha2 x t := by
  intro t
  induction t with
  | zero => intro _; rfl
  | succ t ih => intro h; rw [zfit_s, zfit_s, ih (fun i hi => h i (by omega)), (h t (by omega)).1, (h t (by omega)).2]
theorem zmay_cg {dy ha dy2 ha2 : Nat → Int} {t : Nat} (w : Int) (h : ∀ i, i < t → dy i = dy2 i ∧ ha i = ha2 i) : zA_may dy ha t w = zA_may dy2 ha2 t w := by
  have e : (fun x => zfit dy ha x t) = (fun x => zfit dy2 ha2 x t) := by
    funext x; exact zfit_cg x t h
  unfold zA_may
  rw [e]
