theorem zal_rg {w k : Int} (h : 1 ≤ w ∧ w ≤ 9) : 1 ≤ zal w k ∧ zal w k ≤ 9 := by
  unfold zal
  split <;> omega
set_option maxHeartbeats 4000000 in
theorem st_room (la : Launch) (g0 : zG) (ad : Nat → Nat) {μ : zMem} (hI : zInv μ) : zStI la g0 ad μ yX8_room cX8_room 2 5 [] yX9_room cX9_room 2 5 [] := by
  obtain ⟨n, nc, t, f, k, td, hI⟩ := hI
  obtain ⟨hT, hPn, hH, hPa, hSl, hTd, hS⟩ := id hI
  have ht48 := hT.2.1
  have hy : ∀ i, i < t → 0 ≤ μ 2 i ∧ μ 2 i ≤ 255 := fun i hi => by rw [← hT.2.2.2.1 i hi]; exact hT.2.2.2.2 i (by omega)
  refine ⟨_, cp_room la g0 ad μ t hT.1 hT.2.1 hy, fun v ν h => ?_⟩
  obtain ⟨r, rfl, hfr, hif⟩ := h
  have e39 : ν 39 = μ 39 := hfr 39 (by omega) (by omega) (by omega) (by omega)
  have e40 : ν 40 = μ 40 := hfr 40 (by omega) (by omega) (by omega) (by omega)
  obtain ⟨⟨n2, nc2, gr, ho, wt, kd, po, an⟩, hP⟩ : ∃ P, (zpre (ν 40) t).2 = P := ⟨_, rfl⟩
  have hpre : zpre (ν 40) t = zpre (μ 2) t := zpre_cg t (fun i hi => by rw [e40]; exact hT.2.2.2.1 i hi)
  have hflt : zfault (ν 40) t = zfault (μ 2) t := zfault_cg (fun i hi => by rw [e40]; exact hT.2.2.2.1 i hi)
  refine ⟨zi r, _, rfl, cm_room la g0 ad ν t (by rw [e39]; exact hT.2.2.1) hT.2.1 (by rw [e40]; exact hT.2.2.2.2) n2 nc2 gr ho wt kd po an hP, fun v2 ν2 h2 => ?_⟩
  obtain ⟨r2, rfl, h2⟩ := h2
  rw [hpre] at hP
  rcases h2 with ⟨k0, rfl, g4, g7, g17, g2, g20, g23, hL, hK, p21, p22, b0, b1, hq⟩ | ⟨k0, rfl, hfr2⟩
  · rw [hflt] at k0
    rw [if_pos k0, hP] at hif
    obtain ⟨rfl, hR, hl, hk, h21, h22, f1, f2, s0, s1⟩ := hif
    obtain ⟨hst, hok⟩ := zfault_inv k0
    have hPV := zPV_pre (μ 2) t hok
    rw [hst, hP] at hPV
    obtain ⟨v1, v2, v3, v4, v5, v6, v7, v8, v9, v10, v11, v12⟩ := hPV
    obtain ⟨r0, r1, r2, r3, r4, r5, r6, r7⟩ := hR
    dsimp only at v1 v2 v7 v8 v9 v10 v11 v12 r0 r1 r2 r3 r4 r5 r6 r7 hl hk
    have hgr := v7 (by decide)
    have hg2 := r2 (by decide)
    rw [e39] at g2 g20 g23
    have e : ∀ j, j < 39 → ν2 j = ν j := fun j hj => hq j (Or.inl hj)
    have em : ∀ j, (j < 3 ∨ 16 < j) → j ≠ 18 → j ≠ 28 → j ≠ 33 → j < 39 → ν2 j = μ j := fun j a b c d h => (e j h).trans (hfr j a b c d)
    refine ⟨rfl, n2, nc2, t, 0, 0, td, zTx_cg (em 1 (by omega) (by omega) (by omega) (by omega) (by omega)) (em 2 (by omega) (by omega) (by omega) (by omega) (by omega)) ((hq 40 (Or.inr (Or.inl rfl))).trans e40) g2 hT, ?_, ?_, ⟨?_, by omega, ?_, by omega, ?_, g17, fun i hi => absurd hi (by omega)⟩, ⟨?_, fun i hi => Or.inl ?_⟩, ?_, ?_⟩
    · unfold zPn zPlan zMP
      rw [e 10 (by omega), e 12 (by omega), e 13 (by omega), e 14 (by omega), e 16 (by omega)]
      refine ⟨⟨r0, v1, r1, v2, fun l hl => ?_, fun k hk => ?_⟩, g4, g7, fun l hl => ?_, fun k hk => ?_, v1, v2, fun l hl => ?_, fun k hk => ?_⟩
      · have h1 := r5 l hl
        have h2 := v10 l hl
        have h3 := zal_rg (k := kd l) (v9 l (Or.inl hl))
        rw [h1.1, h1.2]; exact ⟨h2.1, h2.2, h3.1, h3.2⟩
      · rw [r7 k hk]; exact v12 k hk
      · have h1 := r5 l hl
        have h2 := r4 l (Or.inl hl)
        have h3 := hL l hl
        have h4 := v9 l (Or.inl hl)
        rw [h1.1, h1.2, h2]; exact ⟨h3.2.2.2.1, h3.2.2.2.2, rfl, h4.1, h4.2⟩
      · rw [r7 k hk]; exact (hK k hk).2
      · have h1 := r5 l hl
        have h2 := v10 l hl
        have h3 := zal_rg (k := kd l) (v9 l (Or.inl hl))
        rw [h1.1, h1.2]; exact ⟨h2.1, h2.2, h3.1, h3.2⟩
      · rw [r7 k hk]; exact v12 k hk
    · rw [e 18 (by omega)]
      refine ⟨⟨⟨fun l hl9 => ?_, fun k hk9 => ?_, ?_, ?_⟩, fun l hl9 h0 => ?_⟩, fun l hl9 => ?_, fun k hk9 => ⟨fun _ => ?_, fun h0 => absurd h0 (by rw [zb7 k (by omega)]; decide)⟩, ?_, ?_⟩
      · have h1 := hl l hl9
        have h2 := r3 l (Or.inl hl9)
        have h3 := v8 l (Or.inl hl9)
        rw [h1.1, h1.2.1, h1.2.2, h2]; exact ⟨h3.1, h3.2, by omega, by omega, by omega, by omega⟩
      · have h1 := v11 k (Or.inl hk9)
        rw [hk k hk9, r6 k (Or.inl hk9)]; omega
      · rw [h21, hg2]; omega
      · rw [h21, hg2]; omega
      · rw [(hl l hl9).2.1]; omega
      · have h1 := hl l hl9
        have h2 := hL l hl9
        rw [h1.1, h1.2.1, h1.2.2, h2.1, h2.2.1, h2.2.2.1, r3 l (Or.inl hl9)]
        exact ⟨rfl, rfl, rfl⟩
      · rw [hk k hk9, r6 k (Or.inl hk9), (hK k hk9).1]
      · rw [p21, h21, hg2]
      · rw [p22, h22]
    · rw [e 28 (by omega)]; exact f1
    · rw [e 28 (by omega)]; exact f2
    · rw [em 29 (by omega) (by omega) (by omega) (by omega) (by omega)]; exact hPa.2.2.2.2.1
    · rw [em 31 (by omega) (by omega) (by omega) (by omega) (by omega)]; exact hSl.1
    · rw [e 33 (by omega)]
      rcases (show i = 0 ∨ i = 1 by omega) with rfl | rfl
      · exact ⟨s0, b0⟩
      · exact ⟨s1, b1⟩
    · rw [em 34 (by omega) (by omega) (by omega) (by omega) (by omega), em 35 (by omega) (by omega) (by omega) (by omega) (by omega), em 36 (by omega) (by omega) (by omega) (by omega) (by omega), (hq 51 (by omega)).trans (hfr 51 (by omega) (by omega) (by omega) (by omega)), (hq 52 (by omega)).trans (hfr 52 (by omega) (by omega) (by omega) (by omega))]
      exact zTd_cg g20 hTd
    · rw [g23, em 0 (by omega) (by omega) (by omega) (by omega) (by omega)]; exact hS
  · rw [hflt] at k0
    rw [if_neg k0] at hif
    obtain ⟨rfl, hf⟩ := hif
    exact ⟨rfl, n, nc, t, f, k, td, zI_fr (zI_q hI (fun q hq => hf q (by unfold zScr at hq; omega))) hfr2⟩
