-- what is noted: the ring beside the book
theorem zcpy_in {c w : Nat → Int} {s0 s j : Nat} (hj : j < 23) : zcpy c w 0 (s0 * 23) 23 (s * 23 + j) = if s = s0 then c j else w (s * 23 + j) := by
  unfold zcpy
  by_cases e : s = s0
  · subst e
    rw [if_pos ⟨by omega, by omega⟩, if_pos rfl]
    exact congrArg c (by omega)
  · rw [if_neg (by omega), if_neg e]
theorem zPa_step {n nc f k : Nat} {h28 h29 h30 h39 h48 c p g u : Nat → Int} (hn : n ≤ 6) (hc : nc ≤ 3) (q : zPa n nc f k h28 h29 h30 h39 h48) (hh : zHl n nc p c) (g17 : g 17 = if k < 14 then (k : Int) + 1 else 14)
    (hu1 : k < 14 → (∀ j, j < 23 * k → u j = h48 j) ∧ ∀ j, j < 23 → u (23 * k + j) = p j) (hu2 : k = 14 → (∀ j, j < 299 → u j = h48 (j + 23)) ∧ ∀ j, j < 23 → u (299 + j) = p j) :
    ∃ f2 k2, zPa n nc f2 k2 (if k < 14 then zu1 h28 2 ((k : Int) + 1) else zu1 h28 1 (((f + 1) % 14 : Nat) : Int)) h29 (zcpy c h30 0 ((f + k) % 14 * 23) 23) g u := by
  obtain ⟨a1, a2, a3, a4, a5, a6, a7⟩ := q
  by_cases hk : k < 14
  · obtain ⟨u1, u2⟩ := hu1 hk
    rw [if_pos hk] at g17 ⊢
    refine ⟨f, k + 1, by rw [zu1_ne _ _ (by decide)]; exact a1, a2, by rw [zu1_eq]; rfl, by omega, a5, by rw [g17]; rfl, fun i hi => ?_⟩
    by_cases e : i = k
    · subst e
      exact zHl_cg hn hc (fun j hj => u2 j hj) (fun j hj => by rw [zcpy_in hj, if_pos rfl]) hh
    · refine zHl_cg hn hc (fun j hj => u1 _ (by omega)) (fun j hj => ?_) (a7 i (by omega))
      try dsimp only
      rw [zcpy_in hj, if_neg (by omega)]
  · have hk : k = 14 := by omega
    obtain ⟨u1, u2⟩ := hu2 hk
    subst hk
    rw [if_neg (by decide)] at g17 ⊢
    refine ⟨(f + 1) % 14, 14, by rw [zu1_eq], by omega, by rw [zu1_ne _ _ (by decide)]; exact a3, by omega, a5, g17, fun i hi => ?_⟩
    by_cases e : i = 13
    · subst e
      refine zHl_cg hn hc (fun j hj => u2 j hj) (fun j hj => ?_) hh
      try dsimp only
      rw [zcpy_in hj, if_pos (by omega)]
    · refine zHl_cg hn hc (fun j hj => ?_) (fun j hj => ?_) (a7 (i + 1) (by omega))
      · try dsimp only
        rw [u1 _ (by omega)]
        exact congrArg h48 (by omega)
      · try dsimp only
        rw [zcpy_in hj, if_neg (by omega), show ((f + 1) % 14 + i) % 14 = (f + (i + 1)) % 14 by omega]
theorem zI_act {μ ξ : zMem} {n nc t f k td : Nat} (hI : zI μ n nc t f k td) (e30 : ξ 30 = zcpy (μ 18) (μ 30) 0 ((f + k) % 14 * 23) 23) (e28 : ξ 28 = if k < 14 then zu1 (μ 28) 2 ((k : Int) + 1) else zu1 (μ 28) 1 (((f + 1) % 14 : Nat) : Int)) (hh : zHl n nc (ξ 46) (ξ 18))
    (g17 : ξ 39 17 = if k < 14 then (k : Int) + 1 else 14) (g2 : ξ 39 2 = μ 39 2) (g4 : ξ 39 4 = μ 39 4) (g7 : ξ 39 7 = μ 39 7) (g20 : ξ 39 20 = μ 39 20) (g23 : ξ 39 23 = μ 39 23)
    (hu1 : k < 14 → (∀ j, j < 23 * k → ξ 48 j = μ 48 j) ∧ ∀ j, j < 23 → ξ 48 (23 * k + j) = μ 46 j) (hu2 : k = 14 → (∀ j, j < 299 → ξ 48 j = μ 48 (j + 23)) ∧ ∀ j, j < 23 → ξ 48 (299 + j) = μ 46 j)
    (he : ∀ q, ¬ (q = 18 ∨ q = 19 ∨ q = 28 ∨ q = 30 ∨ q = 39 ∨ q = 46 ∨ q = 48 ∨ q = 53) → ξ q = μ q) : zInv ξ := by
  obtain ⟨hT, hPn, hH, hPa, hSl, hTd, hS⟩ := hI
  have hn := hPn.2.2.2.2.2.1
  have hc := hPn.2.2.2.2.2.2.1
  obtain ⟨f2, k2, hP2⟩ := zPa_step hn hc hPa hH g17 hu1 hu2
  refine ⟨n, nc, t, f2, k2, td, zTx_cg (he 1 (by omega)) (he 2 (by omega)) (he 40 (by omega)) g2 hT, zPn_cg (he 10 (by omega)) (he 12 (by omega)) (he 13 (by omega)) (he 14 (by omega)) (he 16 (by omega)) (he 41 (by omega)) (he 42 (by omega)) (he 43 (by omega)) g4 g7 hPn, hh, ?_, ?_, ?_, ?_⟩
  · rw [e28, e30, he 29 (by omega)]; exact hP2
  · rw [he 31 (by omega), he 32 (by omega), he 33 (by omega), he 49 (by omega), he 50 (by omega)]; exact hSl
  · rw [he 34 (by omega), he 35 (by omega), he 36 (by omega), he 51 (by omega), he 52 (by omega)]; exact zTd_cg g20 hTd
  · rw [g23, he 0 (by omega)]; exact hS
/-- nothing but the thrown slot -/
theorem zI_th {μ ξ : zMem} {n nc t f k td : Nat} (hI : zI μ n nc t f k td) (h0 : ∀ j, j ≠ 0 → ξ 39 j = μ 39 j) (he : ∀ q, q ≠ 39 → ξ q = μ q) : zInv ξ :=
  ⟨n, nc, t, f, k, td, zI_fr hI ⟨fun q h1 _ => he q h1, fun j hj => h0 j (by have hj : j = 2 ∨ j = 4 ∨ j = 7 ∨ j = 17 ∨ j = 20 ∨ j = 23 := hj; omega)⟩⟩
theorem zth_39 {μ : zMem} {a : Nat} (ha : a ≠ 39) : ∀ j, j ≠ 0 → zup (zup μ 39 (zu1 (μ 39) 0 (0 : Int))) a (μ a) 39 j = μ 39 j := by
  intro j hj
  unfold zup
  rw [if_neg (Ne.symm ha), if_pos rfl]
  exact zu1_ne _ _ hj
theorem zth_q {μ : zMem} {a : Nat} : ∀ q, q ≠ 39 → zup (zup μ 39 (zu1 (μ 39) 0 (0 : Int))) a (μ a) q = μ q := by
  intro q hq
  unfold zup
  split
  · rename_i h; rw [h]
  · first | rfl | rw [if_neg hq]
set_option maxHeartbeats 4000000 in
theorem st_day (la : Launch) (g0 : zG) (ad : Nat → Nat) {μ : zMem} (hI : zInv μ) : zStI la g0 ad μ yX8_day cX8_day 1 4 [] yX9_day cX9_day 1 6 [] := by
  obtain ⟨n, nc, t, f, k, td, hI⟩ := hI
  obtain ⟨hT, hPn, hH, hPa, hSl, hTd, hS⟩ := id hI
  refine ⟨_, cp_day la g0 ad μ n nc hPn.1 hH.1 f k hPa.1 hPa.2.1 hPa.2.2.1 hPa.2.2.2.1 hPa.2.2.2.2.1, fun v ν h => ?_⟩
  obtain ⟨rfl, hν⟩ := h
  have hm : zMP ν n nc (μ 13) (μ 14) (μ 12) (μ 16) := by rw [hν]; exact hPn.2
  have hg : zAg n nc 7 (ν 46) (μ 18) := by rw [hν]; exact hH.2
  have hk : ν 39 17 = (k : Int) := by rw [hν]; exact hPa.2.2.2.2.2.1
  refine ⟨_, _, rfl, cm_day la g0 ad ν n nc (μ 13) (μ 14) (μ 12) (μ 16) (μ 18) hm hH.1 hg k hk hPa.2.2.2.1, fun v2 ν2 h2 => ?_⟩
  obtain ⟨r2, rfl, rfl, ν1, hN, q, rfl, hag⟩ := h2
  obtain ⟨g, u, rfl, hg17, hgo, hu1, hu2⟩ := hN
  subst hν
  refine ⟨congrArg (fun z : Nat => some (Value.int (zi (z : Int)))) (zdayM_fst' n (μ 13) (μ 14) nc (μ 16) _ _ rfl), zI_act hI rfl rfl ⟨zday_ok hPn.2.2.2.2.2 (s := (μ 18, μ 19)) hH.1, ?_⟩ hg17 (hgo 2 (by decide)) (hgo 4 (by decide)) (hgo 7 (by decide)) (hgo 20 (by decide)) (hgo 23 (by decide)) hu1 hu2 (fun q hq => by unfold zup; repeat rw [if_neg (by omega)])⟩
  have e := zday_fst' n (μ 13) (μ 14) nc (μ 16) (μ 18, (zup (zup (zup (zup μ 30 (zcpy (μ 18) (μ 30) 0 ((f + k) % 14 * 23) 23)) 28 (if k < 14 then zu1 (μ 28) 2 ((k : Int) + 1) else zu1 (μ 28) 1 (((f + 1) % 14 : Nat) : Int))) 18 (zday n (μ 13) (μ 14) nc (μ 16) (μ 18, μ 19)).1) 19 (zday n (μ 13) (μ 14) nc (μ 16) (μ 18, μ 19)).2) 53) (μ 18, μ 19) rfl
  rw [e] at hag
  exact hag
set_option maxHeartbeats 4000000 in
theorem st_put (la : Launch) (g0 : zG) (ad : Nat → Nat) {μ : zMem} (hI : zInv μ) (x y : Int) (hx : zR x) (hy : zR y) : zStI la g0 ad μ yX8_put cX8_put 4 3 [.int (zi x), .int (zi y)] yX9_put cX9_put 4 4 [.int (zi x), .int (zi y)] := by
  obtain ⟨n, nc, t, f, k, td, hI⟩ := hI
  obtain ⟨hT, hPn, hH, hPa, hSl, hTd, hS⟩ := id hI
  have C1 := cp_put la g0 ad μ n nc hPn.1 hH.1 f k hPa.1 hPa.2.1 hPa.2.2.1 hPa.2.2.2.1 hPa.2.2.2.2.1 x y hx hy
  by_cases hz : zcpI n (μ 18) x y = 0
  · rw [if_pos hz] at C1
    have hz2 : ¬ ((0 ≤ x ∧ x < (n : Int)) ∧ (0 ≤ y ∧ y < 12) ∧ μ 18 (12 + x.toNat) = 0 ∧ μ 18 x.toNat ≠ y ∧ zpop (zin (μ 18) y n) < 2) := fun q => by unfold zcpI at hz; rw [if_pos q] at hz; exact absurd hz (by decide)
    refine ⟨_, C1, fun v ν h => ?_⟩
    obtain ⟨rfl, hν⟩ := h
    have hm : zMP ν n nc (μ 13) (μ 14) (μ 12) (μ 16) := by rw [hν]; exact hPn.2
    have hg : zAg n nc 7 (ν 46) (μ 18) := by rw [hν]; exact hH.2
    have hk : ν 39 17 = (k : Int) := by rw [hν]; exact hPa.2.2.2.2.2.1
    refine ⟨_, _, rfl, cm_put la g0 ad ν n nc (μ 13) (μ 14) (μ 12) (μ 16) (μ 18) hm hH.1 hg k hk hPa.2.2.2.1 x y hx hy, fun v2 ν2 h2 => ?_⟩
    obtain ⟨r2, rfl, h2⟩ := h2
    subst hν
    rcases h2 with ⟨k1, rfl, rfl⟩ | ⟨k1, k2, rfl, rfl⟩ | ⟨k1, k2, k3⟩
    · exact ⟨by rw [if_pos (by omega)], zI_th hI (zth_39 (by decide)) zth_q⟩
    · exact ⟨by rw [if_neg (by omega), if_pos hz], zI_th hI (zth_39 (by decide)) zth_q⟩
    · exact absurd ⟨k1.1, k1.2, k2⟩ hz2
  · rw [if_neg hz] at C1
    have hz2 := zcpI_ne hz
    have hn := hPn.2.2.2.2.2.1
    refine ⟨_, C1, fun v ν h => ?_⟩
    obtain ⟨rfl, hν⟩ := h
    have hm : zMP ν n nc (μ 13) (μ 14) (μ 12) (μ 16) := by rw [hν]; exact hPn.2
    have hg : zAg n nc 7 (ν 46) (μ 18) := by rw [hν]; exact hH.2
    have hk : ν 39 17 = (k : Int) := by rw [hν]; exact hPa.2.2.2.2.2.1
    refine ⟨_, _, rfl, cm_put la g0 ad ν n nc (μ 13) (μ 14) (μ 12) (μ 16) (μ 18) hm hH.1 hg k hk hPa.2.2.2.1 x y hx hy, fun v2 ν2 h2 => ?_⟩
    obtain ⟨r2, rfl, h2⟩ := h2
    subst hν
    rcases h2 with ⟨k1, rfl, rfl⟩ | ⟨k1, k2, rfl, rfl⟩ | ⟨k1, k2, rfl, ν1, hN, rfl⟩
    · exact absurd ⟨hz2.1, hz2.2.1⟩ k1
    · exact absurd hz2.2.2 k2
    · obtain ⟨g, u, rfl, hg17, hgo, hu1, hu2⟩ := hN
      exact ⟨by rw [if_neg (by omega), if_neg hz], zI_act hI rfl rfl ⟨zHV_hole hn hH.1 (by omega) hz2.2.1, zAg_hole hn hH.2 (by omega) y⟩ hg17 (hgo 2 (by decide)) (hgo 4 (by decide)) (hgo 7 (by decide)) (hgo 20 (by decide)) (hgo 23 (by decide)) hu1 hu2 (fun q hq => by unfold zup; repeat rw [if_neg (by omega)])⟩
set_option maxHeartbeats 4000000 in
theorem st_send (la : Launch) (g0 : zG) (ad : Nat → Nat) {μ : zMem} (hI : zInv μ) (x y : Int) (hx : zR x) (hy : zR y) : zStI la g0 ad μ yX8_send cX8_send 4 3 [.int (zi x), .int (zi y)] yX9_send cX9_send 4 4 [.int (zi x), .int (zi y)] := by
  obtain ⟨n, nc, t, f, k, td, hI⟩ := hI
  obtain ⟨hT, hPn, hH, hPa, hSl, hTd, hS⟩ := id hI
  have C1 := cp_send la g0 ad μ n nc hPn.1 hH.1 f k hPa.1 hPa.2.1 hPa.2.2.1 hPa.2.2.2.1 hPa.2.2.2.2.1 x y hx hy
  by_cases hz : zcsI nc (μ 18) x y = 0
  · rw [if_pos hz] at C1
    have hz2 : ¬ ((0 ≤ x ∧ x < (nc : Int)) ∧ (0 ≤ y ∧ y < 3) ∧ μ 18 (18 + x.toNat) ≠ y) := fun q => by unfold zcsI at hz; rw [if_pos q] at hz; exact absurd hz (by decide)
    refine ⟨_, C1, fun v ν h => ?_⟩
    obtain ⟨rfl, hν⟩ := h
    have hm : zMP ν n nc (μ 13) (μ 14) (μ 12) (μ 16) := by rw [hν]; exact hPn.2
    have hg : zAg n nc 7 (ν 46) (μ 18) := by rw [hν]; exact hH.2
    have hk : ν 39 17 = (k : Int) := by rw [hν]; exact hPa.2.2.2.2.2.1
    refine ⟨_, _, rfl, cm_send la g0 ad ν n nc (μ 13) (μ 14) (μ 12) (μ 16) (μ 18) hm hH.1 hg k hk hPa.2.2.2.1 x y hx hy, fun v2 ν2 h2 => ?_⟩
    obtain ⟨r2, rfl, h2⟩ := h2
    subst hν
    rcases h2 with ⟨k1, rfl, rfl⟩ | ⟨k1, k2, rfl, rfl⟩ | ⟨k1, k2, k3⟩
    · exact ⟨by rw [if_pos (by omega)], zI_th hI (zth_39 (by decide)) zth_q⟩
    · exact ⟨by rw [if_neg (by omega), if_pos hz], zI_th hI (zth_39 (by decide)) zth_q⟩
    · exact absurd ⟨k1.1, k1.2, k2⟩ hz2
  · rw [if_neg hz] at C1
    have hz2 := zcsI_ne hz
    have hn := hPn.2.2.2.2.2.1
    have hc := hPn.2.2.2.2.2.2.1
    refine ⟨_, C1, fun v ν h => ?_⟩
    obtain ⟨rfl, hν⟩ := h
    have hm : zMP ν n nc (μ 13) (μ 14) (μ 12) (μ 16) := by rw [hν]; exact hPn.2
    have hg : zAg n nc 7 (ν 46) (μ 18) := by rw [hν]; exact hH.2
    have hk : ν 39 17 = (k : Int) := by rw [hν]; exact hPa.2.2.2.2.2.1
    refine ⟨_, _, rfl, cm_send la g0 ad ν n nc (μ 13) (μ 14) (μ 12) (μ 16) (μ 18) hm hH.1 hg k hk hPa.2.2.2.1 x y hx hy, fun v2 ν2 h2 => ?_⟩
    obtain ⟨r2, rfl, h2⟩ := h2
    subst hν
    rcases h2 with ⟨k1, rfl, rfl⟩ | ⟨k1, k2, rfl, rfl⟩ | ⟨k1, k2, rfl, ν1, hN, rfl⟩
    · exact absurd ⟨hz2.1, hz2.2.1⟩ k1
    · exact absurd k2 hz2.2.2
    · obtain ⟨g, u, rfl, hg17, hgo, hu1, hu2⟩ := hN
      exact ⟨by rw [if_neg (by omega), if_neg hz], zI_act hI rfl rfl ⟨zHV_row hn hc hH.1 (by omega) ⟨hz2.2.1.1, by omega⟩, zAg_row hn hc hH.2 (by omega) y (zb7 _ (by omega))⟩ hg17 (hgo 2 (by decide)) (hgo 4 (by decide)) (hgo 7 (by decide)) (hgo 20 (by decide)) (hgo 23 (by decide)) hu1 hu2 (fun q hq => by unfold zup; repeat rw [if_neg (by omega)])⟩
set_option maxHeartbeats 4000000 in
theorem st_feed (la : Launch) (g0 : zG) (ad : Nat → Nat) {μ : zMem} (hI : zInv μ) (x : Int) (hx : zR x) : zStI la g0 ad μ yX8_feed cX8_feed 2 3 [.int (zi x)] yX9_feed cX9_feed 2 4 [.int (zi x)] := by
  obtain ⟨n, nc, t, f, k, td, hI⟩ := hI
  obtain ⟨hT, hPn, hH, hPa, hSl, hTd, hS⟩ := id hI
  have C1 := cp_feed la g0 ad μ n nc hPn.1 hH.1 f k hPa.1 hPa.2.1 hPa.2.2.1 hPa.2.2.2.1 hPa.2.2.2.2.1 x hx
  by_cases hz : 1 ≤ x ∧ x ≤ 9
  · rw [if_pos hz, if_pos hz] at C1
    have hn := hPn.2.2.2.2.2.1
    have hc := hPn.2.2.2.2.2.2.1
    have hgr := hH.1.1.2.2
    refine ⟨_, C1, fun v ν h => ?_⟩
    obtain ⟨rfl, hν⟩ := h
    have hm : zMP ν n nc (μ 13) (μ 14) (μ 12) (μ 16) := by rw [hν]; exact hPn.2
    have hg : zAg n nc 7 (ν 46) (μ 18) := by rw [hν]; exact hH.2
    have hk : ν 39 17 = (k : Int) := by rw [hν]; exact hPa.2.2.2.2.2.1
    refine ⟨_, _, rfl, cm_feed la g0 ad ν n nc (μ 13) (μ 14) (μ 12) (μ 16) (μ 18) hm hH.1 hg k hk hPa.2.2.2.1 x hx, fun v2 ν2 h2 => ?_⟩
    obtain ⟨r2, rfl, h2⟩ := h2
    subst hν
    rcases h2 with ⟨k1, rfl, rfl⟩ | ⟨k1, rfl, ν1, hN, rfl⟩
    · exact absurd hz k1
    · obtain ⟨g, u, rfl, hg17, hgo, hu1, hu2⟩ := hN
      exact ⟨rfl, zI_act hI rfl rfl ⟨zHV_grain hn hc hH.1 (by omega), zAg_one hn hc hH.2 (Or.inl rfl) _⟩ hg17 (hgo 2 (by decide)) (hgo 4 (by decide)) (hgo 7 (by decide)) (hgo 20 (by decide)) (hgo 23 (by decide)) hu1 hu2 (fun q hq => by unfold zup; repeat rw [if_neg (by omega)])⟩
  · rw [if_neg hz, if_neg hz] at C1
    refine ⟨_, C1, fun v ν h => ?_⟩
    obtain ⟨rfl, hν⟩ := h
    have hm : zMP ν n nc (μ 13) (μ 14) (μ 12) (μ 16) := by rw [hν]; exact hPn.2
    have hg : zAg n nc 7 (ν 46) (μ 18) := by rw [hν]; exact hH.2
    have hk : ν 39 17 = (k : Int) := by rw [hν]; exact hPa.2.2.2.2.2.1
    refine ⟨_, _, rfl, cm_feed la g0 ad ν n nc (μ 13) (μ 14) (μ 12) (μ 16) (μ 18) hm hH.1 hg k hk hPa.2.2.2.1 x hx, fun v2 ν2 h2 => ?_⟩
    obtain ⟨r2, rfl, h2⟩ := h2
    subst hν
    rcases h2 with ⟨k1, rfl, rfl⟩ | ⟨k1, k2⟩
    · exact ⟨rfl, zI_th hI (zth_39 (by decide)) zth_q⟩
    · exact absurd k1 hz
