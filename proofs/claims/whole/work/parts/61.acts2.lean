theorem zth3 {μ : zMem} {a b : Nat} (ha : a ≠ 39) (hb : b ≠ 39) : (∀ j, j ≠ 0 → zup (zup (zup μ 39 (zu1 (μ 39) 0 (0 : Int))) a (μ a)) b (μ b) 39 j = μ 39 j) ∧ ∀ q, q ≠ 39 → zup (zup (zup μ 39 (zu1 (μ 39) 0 (0 : Int))) a (μ a)) b (μ b) q = μ q := by
  constructor
  · intro j hj
    unfold zup
    rw [if_neg (Ne.symm hb), if_neg (Ne.symm ha), if_pos rfl]
    exact zu1_ne _ _ hj
  · intro q hq
    unfold zup
    by_cases e : q = b
    · rw [if_pos e, e]
    · rw [if_neg e]
      by_cases e2 : q = a
      · rw [if_pos e2, e2]
      · rw [if_neg e2, if_neg hq]
set_option maxHeartbeats 4000000 in
theorem st_write (la : Launch) (g0 : zG) (ad : Nat → Nat) {μ : zMem} (hI : zInv μ) (x : Int) (hx : zR x) : zStI la g0 ad μ yX8_write cX8_write 2 1 [.int (zi x)] yX9_write cX9_write 2 1 [.int (zi x)] := by
  obtain ⟨n, nc, t, f, k, td, hI⟩ := hI
  obtain ⟨hT, hPn, hH, hPa, hSl, hTd, hS⟩ := id hI
  refine ⟨_, cp_write la g0 ad μ t hT.1 hT.2.1 x hx, fun v ν h => ?_⟩
  obtain ⟨rfl, hν⟩ := h
  have ht : ν 39 2 = (t : Int) := by rw [hν]; split <;> exact hT.2.2.1
  refine ⟨_, _, rfl, cm_write la g0 ad ν t ht hT.2.1 x hx, fun v2 ν2 h2 => ?_⟩
  obtain ⟨r2, rfl, rfl, h2⟩ := h2
  refine ⟨rfl, ?_⟩
  by_cases hc : 0 ≤ x ∧ x ≤ 255 ∧ t < 48
  · rw [if_pos hc] at hν
    rcases h2 with ⟨_, rfl⟩ | ⟨h2, _⟩
    · subst hν
      refine ⟨n, nc, t + 1, f, k, td, ⟨?_, by omega, ?_, fun i hi => ?_, fun i hi => ?_⟩, hPn, hH, zPa_cg rfl hPa, hSl, zTd_cg rfl hTd, hS⟩
      · show zu1 (μ 1) 1 ((t : Int) + 1) 1 = ((t + 1 : Nat) : Int)
        rw [zu1_eq]; rfl
      · show zu1 (zu1 (μ 39) 0 (0 : Int)) 2 ((t : Int) + 1) 2 = ((t + 1 : Nat) : Int)
        rw [zu1_eq]; rfl
      · show zu1 (μ 40) t x i = zu1 (μ 2) t x i
        by_cases e : i = t
        · rw [e, zu1_eq, zu1_eq]
        · rw [zu1_ne _ _ e, zu1_ne _ _ e]; exact hT.2.2.2.1 i (by omega)
      · show 0 ≤ zu1 (μ 40) t x i ∧ zu1 (μ 40) t x i ≤ 255
        by_cases e : i = t
        · rw [e, zu1_eq]; exact ⟨hc.1, hc.2.1⟩
        · rw [zu1_ne _ _ e]; exact hT.2.2.2.2 i hi
    · exact absurd hc h2
  · rw [if_neg hc] at hν
    rcases h2 with ⟨h2, _⟩ | ⟨_, rfl⟩
    · exact absurd h2 hc
    · subst hν
      exact zI_th hI (zth_39 (by decide)) zth_q
set_option maxHeartbeats 4000000 in
theorem st_wipe (la : Launch) (g0 : zG) (ad : Nat → Nat) {μ : zMem} (hI : zInv μ) : zStI la g0 ad μ yX8_wipe cX8_wipe 1 1 [] yX9_wipe cX9_wipe 2 0 [] := by
  obtain ⟨n, nc, t, f, k, td, hI⟩ := hI
  obtain ⟨hT, hPn, hH, hPa, hSl, hTd, hS⟩ := id hI
  refine ⟨_, cp_wipe la g0 ad μ, fun v ν h => ?_⟩
  obtain ⟨rfl, hν⟩ := h
  refine ⟨_, _, rfl, cm_wipe la g0 ad ν, fun v2 ν2 h2 => ?_⟩
  obtain ⟨rfl, rfl⟩ := h2
  subst hν
  refine ⟨?_, n, nc, 0, f, k, td, ⟨rfl, by omega, rfl, fun i hi => absurd hi (by omega), hT.2.2.2.2⟩, hPn, hH, zPa_cg rfl hPa, hSl, zTd_cg rfl hTd, hS⟩
  show some (Value.int (zi (μ 39 2))) = some (Value.int (zi (μ 1 1)))
  rw [hT.1, hT.2.2.1]
set_option maxHeartbeats 4000000 in
theorem st_tell (la : Launch) (g0 : zG) (ad : Nat → Nat) {μ : zMem} (hI : zInv μ) (x y : Int) (hx : zR x) (hy : zR y) : zStI la g0 ad μ yX8_tell cX8_tell 3 1 [.int (zi x), .int (zi y)] yX9_tell cX9_tell 3 1 [.int (zi x), .int (zi y)] := by
  obtain ⟨n, nc, t, f, k, td, hI⟩ := hI
  obtain ⟨hT, hPn, hH, hPa, hSl, hTd, hS⟩ := id hI
  refine ⟨_, cp_tell la g0 ad μ td hTd.1 hTd.2.1 x y hx hy, fun v ν h => ?_⟩
  obtain ⟨rfl, hν⟩ := h
  have ht : ν 39 20 = (td : Int) := by rw [hν]; split <;> exact hTd.2.2.1
  refine ⟨_, _, rfl, cm_tell la g0 ad ν td ht hTd.2.1 x y hx hy, fun v2 ν2 h2 => ?_⟩
  obtain ⟨r2, rfl, rfl, h2⟩ := h2
  refine ⟨rfl, ?_⟩
  by_cases hc : (0 ≤ x ∧ x ≤ 9) ∧ 0 ≤ y ∧ y ≤ 1 ∧ td < 6
  · rw [if_pos hc] at hν
    rcases h2 with ⟨_, rfl⟩ | ⟨h2, _⟩
    · subst hν
      refine ⟨n, nc, t, f, k, td + 1, hT, hPn, hH, zPa_cg rfl hPa, hSl, ⟨?_, by omega, ?_, fun i hi => ?_⟩, hS⟩
      · show zu1 (μ 34) 2 ((td : Int) + 1) 2 = ((td + 1 : Nat) : Int)
        rw [zu1_eq]; rfl
      · show zu1 (zu1 (μ 39) 0 (0 : Int)) 20 ((td : Int) + 1) 20 = ((td + 1 : Nat) : Int)
        rw [zu1_eq]; rfl
      · show zu1 (μ 51) td x i = zu1 (μ 35) td x i ∧ zu1 (μ 52) td y i = zu1 (μ 36) td y i ∧ 0 ≤ zu1 (μ 35) td x i ∧ zu1 (μ 35) td x i ≤ 9 ∧ (zu1 (μ 36) td y i = 0 ∨ zu1 (μ 36) td y i = 1)
        by_cases e : i = td
        · rw [e, zu1_eq, zu1_eq, zu1_eq, zu1_eq]; exact ⟨rfl, rfl, by omega, by omega, by omega⟩
        · rw [zu1_ne _ _ e, zu1_ne _ _ e, zu1_ne _ _ e, zu1_ne _ _ e]; exact hTd.2.2.2 i (by omega)
    · exact absurd ⟨⟨hc.1, hc.2.1, hc.2.2.1⟩, hc.2.2.2⟩ h2
  · rw [if_neg hc] at hν
    rcases h2 with ⟨h2, _⟩ | ⟨_, rfl⟩
    · exact absurd ⟨h2.1.1, h2.1.2.1, h2.1.2.2, h2.2⟩ hc
    · subst hν
      exact zI_th hI (zth3 (by decide) (by decide)).1 (zth3 (by decide) (by decide)).2
set_option maxHeartbeats 4000000 in
theorem st_untell (la : Launch) (g0 : zG) (ad : Nat → Nat) {μ : zMem} (hI : zInv μ) : zStI la g0 ad μ yX8_untell cX8_untell 1 1 [] yX9_untell cX9_untell 2 0 [] := by
  obtain ⟨n, nc, t, f, k, td, hI⟩ := hI
  obtain ⟨hT, hPn, hH, hPa, hSl, hTd, hS⟩ := id hI
  refine ⟨_, cp_untell la g0 ad μ, fun v ν h => ?_⟩
  obtain ⟨rfl, hν⟩ := h
  refine ⟨_, _, rfl, cm_untell la g0 ad ν, fun v2 ν2 h2 => ?_⟩
  obtain ⟨rfl, rfl⟩ := h2
  subst hν
  refine ⟨?_, n, nc, t, f, k, 0, hT, hPn, hH, zPa_cg rfl hPa, hSl, ⟨rfl, by omega, rfl, fun i hi => absurd hi (by omega)⟩, hS⟩
  show some (Value.int (zi (μ 39 20))) = some (Value.int (zi (μ 34 2)))
  rw [hTd.1, hTd.2.2.1]
theorem zcpy_out {w c : Nat → Int} {a j : Nat} (hj : j < 23) : zcpy w c a 0 23 j = w (a + j) := by
  unfold zcpy
  rw [if_pos ⟨by omega, by omega⟩]
  exact congrArg w (by omega)
set_option maxHeartbeats 4000000 in
theorem st_undo (la : Launch) (g0 : zG) (ad : Nat → Nat) {μ : zMem} (hI : zInv μ) : zStI la g0 ad μ yX8_undo cX8_undo 1 3 [] yX9_undo cX9_undo 2 0 [] := by
  obtain ⟨n, nc, t, f, k, td, hI⟩ := hI
  obtain ⟨hT, hPn, hH, hPa, hSl, hTd, hS⟩ := id hI
  have hn := hPn.2.2.2.2.2.1
  have hc := hPn.2.2.2.2.2.2.1
  refine ⟨_, cp_undo la g0 ad μ f k hPa.1 hPa.2.1 hPa.2.2.1 hPa.2.2.2.1 hPa.2.2.2.2.1, fun v ν h => ?_⟩
  obtain ⟨rfl, hν⟩ := h
  have hk : ν 39 17 = (k : Int) := by rw [hν]; split <;> exact hPa.2.2.2.2.2.1
  refine ⟨_, _, rfl, cm_undo la g0 ad ν k hk hPa.2.2.2.1, fun v2 ν2 h2 => ?_⟩
  obtain ⟨r2, rfl, h2⟩ := h2
  rcases h2 with ⟨k1, rfl, rfl⟩ | ⟨k1, rfl, p, rfl, hp⟩
  · rw [if_pos k1] at hν
    subst hν
    exact ⟨by rw [if_pos k1], zI_th hI (zth_39 (by decide)) zth_q⟩
  · rw [if_neg (by omega)] at hν
    subst hν
    have hk14 := hPa.2.2.2.1
    refine ⟨by rw [if_neg (by omega)], n, nc, t, f, k - 1, td, hT, hPn, ?_, ⟨hPa.1, hPa.2.1, ?_, by omega, hPa.2.2.2.2.1, ?_, fun i hi => hPa.2.2.2.2.2.2 i (by omega)⟩, hSl, zTd_cg rfl hTd, hS⟩
    · exact zHl_cg hn hc (fun j hj => hp j hj) (fun j hj => zcpy_out hj) (hPa.2.2.2.2.2.2 (k - 1) (by omega))
    · show zu1 (μ 28) 2 ((k : Int) - 1) 2 = ((k - 1 : Nat) : Int)
      rw [zu1_eq]; omega
    · show zu1 (zu1 (μ 39) 0 (0 : Int)) 17 ((k : Int) - 1) 17 = ((k - 1 : Nat) : Int)
      rw [zu1_eq]; omega
set_option maxHeartbeats 4000000 in
theorem st_keep (la : Launch) (g0 : zG) (ad : Nat → Nat) {μ : zMem} (hI : zInv μ) (x : Int) (hx : zR x) : zStI la g0 ad μ yX8_keep cX8_keep 2 2 [.int (zi x)] yX9_keep cX9_keep 3 1 [.int (zi x)] := by
  obtain ⟨n, nc, t, f, k, td, hI⟩ := hI
  obtain ⟨hT, hPn, hH, hPa, hSl, hTd, hS⟩ := id hI
  have hn := hPn.2.2.2.2.2.1
  have hc := hPn.2.2.2.2.2.2.1
  refine ⟨_, cp_keep la g0 ad μ hSl.1 x hx, fun v ν h => ?_⟩
  obtain ⟨rfl, hν⟩ := h
  refine ⟨_, _, rfl, cm_keepSlot la g0 ad ν x hx, fun v2 ν2 h2 => ?_⟩
  obtain ⟨r2, rfl, h2⟩ := h2
  rcases h2 with ⟨k1, rfl, rfl⟩ | ⟨k1, rfl, v, rfl, hv1, hv2⟩
  · rw [if_neg (by omega)] at hν
    subst hν
    exact ⟨by rw [if_neg (by omega)], zI_th hI (zth3 (by decide) (by decide)).1 (zth3 (by decide) (by decide)).2⟩
  · rw [if_pos (by omega)] at hν
    subst hν
    refine ⟨?_, n, nc, t, f, k, td, hT, hPn, hH, zPa_cg rfl hPa, ⟨hSl.1, fun i hi => ?_⟩, zTd_cg rfl hTd, hS⟩
    · rw [if_pos (by omega)]
      show some (Value.int (zi (μ 46 22))) = some (Value.int (zi (μ 18 22)))
      rw [hH.2.2.2.2]
    · show (zu1 (μ 33) x.toNat 1 i = 0 ∧ zu1 (μ 50) x.toNat 1 i = 0) ∨ (zu1 (μ 33) x.toNat 1 i = 1 ∧ zu1 (μ 50) x.toNat 1 i = 1 ∧ zEn n nc v (23 * i) (zcpy (μ 18) (μ 32) 0 (x.toNat * 23) 23) (i * 23))
      by_cases e : i = x.toNat
      · rw [e, zu1_eq, zu1_eq]
        refine Or.inr ⟨rfl, rfl, zHl_cg hn hc (fun j hj => hv1 j hj) (fun j hj => ?_) hH⟩
        rw [zcpy_in hj, if_pos rfl]
      · rw [zu1_ne _ _ e, zu1_ne _ _ e]
        rcases hSl.2 i hi with q | ⟨q1, q2, q3⟩
        · exact Or.inl q
        · refine Or.inr ⟨q1, q2, zHl_cg hn hc (fun j hj => hv2 _ (by omega)) (fun j hj => ?_) q3⟩
          rw [zcpy_in hj, if_neg e]
set_option maxHeartbeats 4000000 in
theorem st_again (la : Launch) (g0 : zG) (ad : Nat → Nat) {μ : zMem} (hI : zInv μ) (x : Int) (hx : zR x) : zStI la g0 ad μ yX8_again cX8_again 2 2 [.int (zi x)] yX9_again cX9_again 3 1 [.int (zi x)] := by
  obtain ⟨n, nc, t, f, k, td, hI⟩ := hI
  obtain ⟨hT, hPn, hH, hPa, hSl, hTd, hS⟩ := id hI
  have hn := hPn.2.2.2.2.2.1
  have hc := hPn.2.2.2.2.2.2.1
  have h33 : ∀ i, i < 2 → μ 33 i = 0 ∨ μ 33 i = 1 := fun i hi => by rcases hSl.2 i hi with q | q; exact Or.inl q.1; exact Or.inr q.1
  have h50 : ∀ i, i < 2 → μ 50 i = μ 33 i := fun i hi => by rcases hSl.2 i hi with q | q; rw [q.1, q.2]; rw [q.1, q.2.1]
  refine ⟨_, cp_again la g0 ad μ hSl.1 x hx h33, fun v ν h => ?_⟩
  obtain ⟨rfl, hν⟩ := h
  have e50 : ν 50 = μ 50 := by rw [hν]; split <;> rfl
  have e49 : ν 49 = μ 49 := by rw [hν]; split <;> rfl
  refine ⟨_, _, rfl, cm_againSlot la g0 ad ν (fun j hj => by rw [e50, h50 j hj]; exact h33 j hj) x hx, fun v2 ν2 h2 => ?_⟩
  obtain ⟨r2, rfl, h2⟩ := h2
  rw [e50, e49] at h2
  rcases h2 with ⟨k1, rfl, rfl⟩ | ⟨k1, k2, rfl, rfl⟩ | ⟨k1, k2, rfl, p, rfl, hp⟩
  · rw [if_neg (by omega)] at hν
    subst hν
    exact ⟨by rw [if_neg (by omega)], zI_th hI (zth_39 (by decide)) zth_q⟩
  · rw [h50 _ (by omega)] at k2
    rw [if_neg (fun q => q.2 k2)] at hν
    subst hν
    exact ⟨by rw [if_pos (by omega), if_pos k2], zI_th hI (zth_39 (by decide)) zth_q⟩
  · rw [h50 _ (by omega)] at k2
    have k3 : ¬ μ 33 x.toNat = 0 := by omega
    rw [if_pos ⟨by omega, k3⟩] at hν
    subst hν
    have q3 : zEn n nc (μ 49) (23 * x.toNat) (μ 32) (x.toNat * 23) := by
      rcases hSl.2 x.toNat (by omega) with q | q
      · exact absurd q.1 k3
      · exact q.2.2
    refine ⟨?_, n, nc, t, 0, 0, td, hT, hPn, zHl_cg hn hc (fun j hj => hp j hj) (fun j hj => zcpy_out hj) q3, ⟨rfl, by omega, rfl, by omega, hPa.2.2.2.2.1, rfl, fun i hi => absurd hi (by omega)⟩, hSl, zTd_cg rfl hTd, hS⟩
    rw [if_pos (by omega), if_neg k3, show μ 49 (23 * x.toNat + 22) = μ 32 (x.toNat * 23 + 22) from q3.2.2.2.2]
def zStL (la : Launch) (g0 : zG) (ad : Nat → Nat) (μ : zMem) (y1 : MethodName) (c1 : ByteArray) (m1 d1 : Nat) (as1 : List Value) (y2 : MethodName) (c2 : ByteArray) (m2 d2 : Nat) (as2 : List Value) : Prop :=
  ∃ Po1, zCon la g0 y1 c1 m1 (some .long) d1 ad zSH (.ref (ad 0) :: as1) μ Po1 ∧ ∀ v ν, Po1 v ν → ∃ (r : Int64) (Po2 : Option Value → zMem → Prop), v = some (.long r) ∧ zCon la g0 y2 c2 m2 (some .long) d2 ad zSH (.ref (ad 39) :: as2) ν Po2 ∧ ∀ v2 ν2, Po2 v2 ν2 → v2 = some (.long r) ∧ zInv ν2
set_option maxHeartbeats 4000000 in
theorem st_seed (la : Launch) (g0 : zG) (ad : Nat → Nat) {μ : zMem} (hI : zInv μ) (x : Int) : zStL la g0 ad μ yX8_seed cX8_seed 5 0 [.long (zl x)] yX9_seed cX9_seed 5 0 [.long (zl x)] := by
  obtain ⟨n, nc, t, f, k, td, hI⟩ := hI
  obtain ⟨hT, hPn, hH, hPa, hSl, hTd, hS⟩ := id hI
  refine ⟨_, cp_seed la g0 ad μ x, fun v ν h => ?_⟩
  obtain ⟨r, rfl, rfl, hν⟩ := h
  refine ⟨_, _, rfl, cm_seed la g0 ad ν x, fun v2 ν2 h2 => ?_⟩
  obtain ⟨r2, rfl, rfl, rfl⟩ := h2
  subst hν
  refine ⟨?_, n, nc, t, f, k, td, hT, hPn, hH, zPa_cg rfl hPa, hSl, zTd_cg rfl hTd, rfl⟩
  show some (Value.long (zl (μ 39 23))) = some (Value.long (zl (μ 0 9)))
  rw [hS]
set_option maxHeartbeats 4000000 in
theorem st_years (la : Launch) (g0 : zG) (ad : Nat → Nat) {μ : zMem} (hI : zInv μ) (x : Int) (hx : zR x) : zStI la g0 ad μ yX8_years cX8_years 3 6 [.int (zi x)] yX9_years cX9_years 5 7 [.int (zi x)] := by
  obtain ⟨n, nc, t, f, k, td, hI⟩ := hI
  obtain ⟨hT, hPn, hH, hPa, hSl, hTd, hS⟩ := id hI
  refine ⟨_, cp_years la g0 ad μ n nc hPn.1 hH.1 x hx, fun v ν h => ?_⟩
  obtain ⟨r, rfl, rfl, h0, hf⟩ := h
  have e : ∀ j, ¬ ((3 ≤ j ∧ j ≤ 9) ∨ (19 ≤ j ∧ j ≤ 27) ∨ j = 38) → j ≠ 0 → ν j = μ j := hf
  have hm : zMP ν n nc (μ 13) (μ 14) (μ 12) (μ 16) := by
    unfold zMP
    rw [e 39 (by omega) (by omega), e 41 (by omega) (by omega), e 42 (by omega) (by omega), e 43 (by omega) (by omega)]
    exact hPn.2
  have hg : zAg n nc 7 (ν 46) (μ 18) := by rw [e 46 (by omega) (by omega)]; exact hH.2
  refine ⟨_, _, rfl, cm_years la g0 ad ν n nc (μ 13) (μ 14) (μ 12) (μ 16) (μ 18) hm hH.1 hg x hx, fun v2 ν2 h2 => ?_⟩
  obtain ⟨r2, rfl, rfl, h23, hf2, hj2⟩ := h2
  have es : ν 39 23 = μ 0 9 := by rw [e 39 (by omega) (by omega)]; exact hS
  rw [es] at h23 ⊢
  have e2 : ∀ j, j ≠ 39 → ¬ (j = 44 ∨ j = 45 ∨ j = 47 ∨ j = 53 ∨ j = 54 ∨ j = 55) → ν2 j = ν j := hf2
  have ee : ∀ j, ¬ ((3 ≤ j ∧ j ≤ 9) ∨ (19 ≤ j ∧ j ≤ 27) ∨ j = 38) → j ≠ 0 → j ≠ 39 → ¬ (j = 44 ∨ j = 45 ∨ j = 47 ∨ j = 53 ∨ j = 54 ∨ j = 55) → ν2 j = μ j := fun j a b c d => (e2 j c d).trans (e j a b)
  have e39 : ν 39 = μ 39 := e 39 (by omega) (by omega)
  have j2 := hj2 2 (by decide) (by decide)
  have j4 := hj2 4 (by decide) (by decide)
  have j7 := hj2 7 (by decide) (by decide)
  have j17 := hj2 17 (by decide) (by decide)
  have j20 := hj2 20 (by decide) (by decide)
  rw [e39] at j2 j4 j7 j17 j20
  refine ⟨rfl, n, nc, t, f, k, td, zTx_cg (ee 1 (by omega) (by omega) (by omega) (by omega)) (ee 2 (by omega) (by omega) (by omega) (by omega)) (ee 40 (by omega) (by omega) (by omega) (by omega)) j2 hT,
    zPn_cg (ee 10 (by omega) (by omega) (by omega) (by omega)) (ee 12 (by omega) (by omega) (by omega) (by omega)) (ee 13 (by omega) (by omega) (by omega) (by omega)) (ee 14 (by omega) (by omega) (by omega) (by omega)) (ee 16 (by omega) (by omega) (by omega) (by omega)) (ee 41 (by omega) (by omega) (by omega) (by omega)) (ee 42 (by omega) (by omega) (by omega) (by omega)) (ee 43 (by omega) (by omega) (by omega) (by omega)) j4 j7 hPn, ?_, ?_, ?_, ?_, ?_⟩
  · rw [ee 46 (by omega) (by omega) (by omega) (by omega), ee 18 (by omega) (by omega) (by omega) (by omega)]; exact hH
  · rw [ee 28 (by omega) (by omega) (by omega) (by omega), ee 29 (by omega) (by omega) (by omega) (by omega), ee 30 (by omega) (by omega) (by omega) (by omega), ee 48 (by omega) (by omega) (by omega) (by omega)]; exact zPa_cg j17 hPa
  · rw [ee 31 (by omega) (by omega) (by omega) (by omega), ee 32 (by omega) (by omega) (by omega) (by omega), ee 33 (by omega) (by omega) (by omega) (by omega), ee 49 (by omega) (by omega) (by omega) (by omega), ee 50 (by omega) (by omega) (by omega) (by omega)]; exact hSl
  · rw [ee 34 (by omega) (by omega) (by omega) (by omega), ee 35 (by omega) (by omega) (by omega) (by omega), ee 36 (by omega) (by omega) (by omega) (by omega), ee 51 (by omega) (by omega) (by omega) (by omega), ee 52 (by omega) (by omega) (by omega) (by omega)]; exact zTd_cg j20 hTd
  · rw [h23, e2 0 (by omega) (by omega), h0]
    by_cases hc : 1 ≤ x ∧ x ≤ 30
    · rw [if_pos hc, if_pos hc, zu1_eq]
    · rw [if_neg hc, if_neg hc]
