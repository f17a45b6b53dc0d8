/-- the fault is at i -/
def zFt (y : Nat → Int) (t i : Nat) : Prop := i ≤ t ∧ (∀ j, j ≤ i → ¬ (zpre y j).1 = -1) ∧ ((i < t ∧ (zpre y (i + 1)).1 = -1) ∨ (i = t ∧ ¬ (zpre y t).1 = 2))
theorem zflt_at {y : Nat → Int} {t i : Nat} (h : zFt y t i) : ∀ r j, j + r = t → j ≤ i → zflt y t r j = (i : Int) := by
  obtain ⟨h1, h2, h3⟩ := h
  intro r
  induction r with
  | zero =>
    intro j hj hi
    have : i = t := by omega
    rcases h3 with h3 | h3
    · omega
    · show (if (zpre y t).1 = 2 then (-9 : Int) else (t : Int)) = (i : Int)
      rw [if_neg h3.2, this]
  | succ r ih =>
    intro j hj hi
    rw [zflt_s]
    by_cases e : j = i
    · subst e
      rcases h3 with h3 | h3
      · rw [if_pos h3.2]
      · omega
    · rw [if_neg (h2 (j + 1) (by omega))]
      exact ih (j + 1) (by omega) (by omega)
theorem zFt_is {y : Nat → Int} {t i : Nat} (h : zFt y t i) : zfault y t = (i : Int) := zflt_at h t 0 (by omega) (Nat.zero_le _)
theorem zflt_no {y : Nat → Int} {t : Nat} (h1 : (zpre y t).1 = 2) (h2 : ∀ j, j ≤ t → ¬ (zpre y j).1 = -1) : ∀ r j, j + r = t → zflt y t r j = -9 := by
  intro r
  induction r with
  | zero => intro j _; show (if (zpre y t).1 = 2 then (-9 : Int) else (t : Int)) = -9; rw [if_pos h1]
  | succ r ih => intro j hj; rw [zflt_s, if_neg (h2 (j + 1) (by omega))]; exact ih (j + 1) (by omega)
theorem zfault_no {y : Nat → Int} {t : Nat} (h1 : (zpre y t).1 = 2) (h2 : ∀ j, j ≤ t → ¬ (zpre y j).1 = -1) : zfault y t = -9 := zflt_no h1 h2 t 0 (by omega)
theorem zFt_of {y : Nat → Int} {t i : Nat} {a : Int} {P : zP8} (hz : zpre y i = (a, P)) (hi : i ≤ t) (ha : ¬ a = 2) (hok : ∀ j, j ≤ i → ¬ (zpre y j).1 = -1) (h : i < t → (zstep a P (y i)).1 = -1) : zFt y t i := by
  refine ⟨hi, hok, ?_⟩
  by_cases e : i < t
  · exact Or.inl ⟨e, by rw [zpre_s, hz]; exact h e⟩
  · have : i = t := by omega
    subst this
    exact Or.inr ⟨rfl, by rw [hz]; exact ha⟩
theorem zok_s {y : Nat → Int} {i : Nat} {a b : Int} {P Q : zP8} (hz : zpre y i = (a, P)) (hok : ∀ j, j ≤ i → ¬ (zpre y j).1 = -1) (h : zstep a P (y i) = (b, Q)) (hb : ¬ b = -1) : zpre y (i + 1) = (b, Q) ∧ ∀ j, j ≤ i + 1 → ¬ (zpre y j).1 = -1 := by
  have e : zpre y (i + 1) = (b, Q) := by rw [zpre_s, hz]; exact h
  refine ⟨e, fun j hj => ?_⟩
  by_cases e9 : j = i + 1
  · subst e9; rw [e]; exact hb
  · exact hok j (by omega)
/-- no hole has more than two -/
def zH2 (a : Int) (p : zP8) : Prop := (∀ x, zhi p.2.2.2.1 x p.1 ≤ 2) ∧ ((a = 4 ∨ a = 5) → zhi p.2.2.2.1 (p.2.2.2.1 p.1) p.1 < 2)
theorem zH2_step {a : Int} {p : zP8} {s : Int} (ha : 0 ≤ a ∧ a ≤ 7) (h : zH2 a p) (hr : ¬ (zstep a p s).1 = -1) : zH2 (zstep a p s).1 (zstep a p s).2 := by
  obtain ⟨n, nc, gr, ho, wt, kd, po, an⟩ := p
  obtain ⟨h1, h2⟩ := h
  dsimp only at h1 h2
  rcases (show a = 0 ∨ a = 1 ∨ a = 2 ∨ a = 3 ∨ a = 4 ∨ a = 5 ∨ a = 6 ∨ a = 7 by omega) with rfl | rfl | rfl | rfl | rfl | rfl | rfl | rfl
  · rw [zstep_0] at hr ⊢
    refine ⟨h1, fun q => ?_⟩
    dsimp only at q
    split at q <;> omega
  · rw [zstep_1] at hr ⊢
    refine ⟨h1, fun q => ?_⟩
    dsimp only at q
    split at q <;> omega
  · rw [zstep_2] at hr ⊢
    refine ⟨h1, fun q => ?_⟩
    dsimp only at q
    split at q
    · omega
    · split at q <;> omega
  · rw [zstep_3] at hr ⊢
    have e : ∀ x, zhi (zu1 ho n (s - 97)) x n = zhi ho x n := fun x => zhi_cg x n (fun l hl => zu1_ne _ _ (by omega))
    refine ⟨fun x => by show zhi (zu1 ho n (s - 97)) x n ≤ 2; rw [e]; exact h1 x, fun q => ?_⟩
    show zhi (zu1 ho n (s - 97)) (zu1 ho n (s - 97) n) n < 2
    rw [e, zu1_eq]
    dsimp only at q
    split at q
    · rename_i hc; exact hc.2
    · omega
  · rw [zstep_4] at hr ⊢
    exact ⟨h1, fun _ => h2 (Or.inl rfl)⟩
  · rw [zstep_5] at hr ⊢
    have h3 := h2 (Or.inr rfl)
    refine ⟨fun x => ?_, fun q => ?_⟩
    · show zhi ho x (n + 1) ≤ 2
      rw [zhi_s]
      split
      · rename_i e; rw [e] at h3; omega
      · exact h1 x
    · dsimp only at q
      split at q <;> omega
  · rw [zstep_6] at hr ⊢
    refine ⟨h1, fun q => ?_⟩
    dsimp only at q
    split at q <;> omega
  · rw [zstep_7] at hr ⊢
    refine ⟨h1, fun q => ?_⟩
    dsimp only at q
    split at q <;> omega
theorem zH2_pre (y : Nat → Int) : ∀ i, (∀ j, j ≤ i → ¬ (zpre y j).1 = -1) → zH2 (zpre y i).1 (zpre y i).2 := by
  intro i
  induction i with
  | zero => intro _; exact ⟨fun x => Nat.zero_le _, fun q => by have q : (0 : Int) = 4 ∨ (0 : Int) = 5 := q; omega⟩
  | succ i ih =>
    intro h
    have hv := zPV_pre y i (fun j hj => h j (by omega))
    have h9 := h (i + 1) (Nat.le_refl _)
    rw [zpre_s] at h9 ⊢
    exact zH2_step ⟨hv.2.2.2.2.1, hv.2.2.2.2.2.1⟩ (ih (fun j hj => h j (by omega))) h9
/-- what the reference holds of a text read up to i -/
def zMR (h u v : Nat → Int) (i : Nat) (p : zP8) : Prop := h 3 = (i : Int) ∧ h 10 = (p.1 : Int) ∧ h 12 = (p.2.1 : Int) ∧ h 9 = p.2.2.1 ∧ (∀ l, l < p.1 → u (3 * l) = p.2.2.2.1 l ∧ u (3 * l + 1) = p.2.2.2.2.1 l ∧ u (3 * l + 2) = p.2.2.2.2.2.1 l) ∧ ∀ k, k < p.2.1 → v (2 * k) = p.2.2.2.2.2.2.1 k ∧ v (2 * k + 1) = p.2.2.2.2.2.2.2 k
theorem zrin_hi {u ho : Nat → Int} (x : Int) : ∀ n, (∀ l, l < n → u (3 * l) = ho l) → zrin u x n = zhi ho x n := by
  intro n
  induction n with
  | zero => intro _; rfl
  | succ n ih =>
    intro h
    rw [zrin_s, zhi_s, ih (fun l hl => h l (by omega)), h n (by omega)]
    by_cases e : ho n = x
    · rw [if_pos e, if_pos e]
    · rw [if_neg e, if_neg e]; rfl
def zRd (μ : zMem) (h : Nat → Int) (t p : Nat) (r : Int) (ν : zMem) : Prop := ∃ (g u v : Nat → Int) (i : Nat), ν = zup (zup (zup μ 39 g) 44 u) 45 v ∧ (∀ j, j ≠ 3 → j ≠ 10 → j ≠ 12 → g j = h j) ∧ g 3 = (i : Int) ∧ ((r = 1 ∧ p < i ∧ i ≤ t ∧ (zpre (μ 40) i).1 = 2 ∧ (∀ j, j ≤ i → ¬ (zpre (μ 40) j).1 = -1) ∧ zMR g u v i (zpre (μ 40) i).2) ∨ (r = 0 ∧ zFt (μ 40) t i))
theorem zRd_up {μ : zMem} {h : Nat → Int} {t p : Nat} {x : Int} {r : Int} {ν : zMem} (q : zRd μ (zu1 h 3 x) t (p + 1) r ν) : zRd μ h t p r ν := by
  obtain ⟨g, u, v, i, h1, h2, h3, h4⟩ := q
  refine ⟨g, u, v, i, h1, fun j a1 a2 a3 => by rw [h2 j a1 a2 a3, zu1_ne _ _ a1], h3, ?_⟩
  rcases h4 with ⟨k1, k2, k3⟩ | h4
  · exact Or.inl ⟨k1, by omega, k3⟩
  · exact Or.inr h4
theorem zRd_01 {μ : zMem} {h : Nat → Int} {t p : Nat} {r : Int} {ν : zMem} (q : zRd μ h t p r ν) : r = 0 ∨ r = 1 := by
  obtain ⟨g, u, v, i, h1, h2, h3, h4⟩ := q
  rcases h4 with h4 | h4
  · exact Or.inr h4.1
  · exact Or.inl h4.1
set_option maxHeartbeats 4000000 in
set_option maxRecDepth 100000 in
theorem cm_fromd (la : Launch) (g0 : zG) (ad : Nat → Nat) (μ : zMem) (h u v : Nat → Int) (p t : Nat) (hp : h 3 = (p : Int)) (ht : h 2 = (t : Int)) (hpt : p ≤ t) (ht48 : t ≤ 48) (hx : ∀ j, j < 48 → 0 ≤ μ 40 j ∧ μ 40 j ≤ 255) (f a b : Int) (hf : 0 ≤ f ∧ f ≤ 255) (hu : zR a) (hw : zR b) : zCon la g0 yX9_from cX9_from 4 (some .int) 1 ad zSH [.ref (ad 39), .int (zi f), .int (zi a), .int (zi b)] (zup (zup (zup μ 39 h) 44 u) 45 v) (zPd (zup (zup (zup μ 39 (if (p < t ∧ a ≤ μ 40 p - f ∧ μ 40 p - f ≤ b) then zu1 h 3 ((p + 1 : Nat) : Int) else h)) 44 u) 45 v) (if (p < t ∧ a ≤ μ 40 p - f ∧ μ 40 p - f ≤ b) then μ 40 p - f else -9)) := by
  refine zCon_of (by decide +kernel) (Nat.le_of_ble_eq_true rfl) ?_
  intro χ K T hl1 hg1
  have K : zOk χ cX9_from RX9 4 1 (some .int) := K
  show zV χ 4 ad zSH 0 0 0 [(0, .ref (ad 39)), (1, .int (zi f)), (2, .int (zi a)), (3, .int (zi b))] [] (zup (zup (zup μ 39 h) 44 u) 45 v)
  refine z_aload_n K dX9_from_0 rfl ?_
  refine z_get (k := 39) (v := .int (zi (h 3))) K dX9_from_1 fl_X9_78 rfl rfl rfl ?_
  rw [show (h 3) = ((p : Nat) : Int) from hp]
  refine z_aload_n K dX9_from_4 rfl ?_
  refine z_get (k := 39) (v := .int (zi (h 2))) K dX9_from_5 fl_X9_75 rfl rfl rfl ?_
  rw [show (h 2) = ((t : Nat) : Int) from ht]
  refine z_icmpeq (tgt := 33) K dX9_from_8 (by decide) (by omega) (by omega) (fun h8 => ?_) (fun h8 => ?_)
  · refine z_bipush K dX9_from_33 (by decide +kernel) ?_
    exact z_iretd K T rfl dX9_from_35 (by rw [if_neg (show ¬ (p < t ∧ a ≤ μ 40 p - f ∧ μ 40 p - f ≤ b) by omega)]) (by rw [if_neg (show ¬ (p < t ∧ a ≤ μ 40 p - f ∧ μ 40 p - f ≤ b) by omega)])
  · have hxp := hx p (by omega)
    refine z_aload_n K dX9_from_11 rfl ?_
    refine z_get (k := 39) (v := .ref (ad 40)) K dX9_from_12 fl_X9_7 rfl rfl rfl ?_
    refine z_aload_n K dX9_from_15 rfl ?_
    refine z_get (k := 39) (v := .int (zi (h 3))) K dX9_from_16 fl_X9_78 rfl rfl rfl ?_
    rw [show (h 3) = ((p : Nat) : Int) from hp]
    refine z_iald (k := 40) (v := μ 40 p) K dX9_from_19 p rfl (by decide) (by omega) (by omega) rfl ?_
    refine z_iload_n K dX9_from_20 rfl ?_
    refine z_isub K dX9_from_21 ?_
    refine z_i2l K dX9_from_22 (by omega) ?_
    refine z_iload_n K dX9_from_23 rfl ?_
    refine z_i2l K dX9_from_24 (by omega) ?_
    refine z_iload_n K dX9_from_25 rfl ?_
    refine z_i2l K dX9_from_26 (by omega) ?_
    refine z_callSd K hl1 hg1 (As := [.long (zl ((μ 40 p) - f)), .long (zl a), .long (zl b)]) (rest := []) (cm_in la g0 ad (zup (zup (zup μ 39 h) 44 u) 45 v) ((μ 40 p) - f) a b ⟨by omega, by omega⟩ ⟨by omega, by omega⟩ ⟨by omega, by omega⟩) (by decide) lk_X9_66 cd_X9_in rfl rfl (Nat.le_of_ble_eq_true rfl) dX9_from_27 ?_
    show zV χ 4 ad zSH 0 0 30 [(0, .ref (ad 39)), (1, .int (zi f)), (2, .int (zi a)), (3, .int (zi b))] [.int (zi (if a ≤ (μ 40 p) - f ∧ (μ 40 p) - f ≤ b then 1 else 0))] (zup (zup (zup μ 39 h) 44 u) 45 v)
    refine z_ifne (tgt := 36) K dX9_from_30 (by decide) (by omega) (fun h30 => ?_) (fun h30 => ?_)
    · refine z_aload_n K dX9_from_36 rfl ?_
      refine z_dup K dX9_from_37 rfl ?_
      refine z_get (k := 39) (v := .int (zi (h 3))) K dX9_from_38 fl_X9_78 rfl rfl rfl ?_
      rw [show (h 3) = ((p : Nat) : Int) from hp]
      refine z_iconst K dX9_from_41 ?_
      refine z_iadd K dX9_from_42 ?_
      rw [show (((p : Nat) : Int) + (1 : Int)) = ((p + 1 : Nat) : Int) from (by omega)]
      refine z_puti (k := 39) K dX9_from_43 fp_X9_78 rfl rfl (z_mem (ν := zup (zup (zup μ 39 (zu1 h 3 ((p + 1 : Nat) : Int))) 44 u) 45 v) (zup_sw3 _ (by decide) (by decide) _ _ _ _) ?_)
      refine z_aload_n K dX9_from_46 rfl ?_
      refine z_get (k := 39) (v := .ref (ad 40)) K dX9_from_47 fl_X9_7 rfl rfl rfl ?_
      refine z_aload_n K dX9_from_50 rfl ?_
      refine z_get (k := 39) (v := .int (zi ((zu1 h 3 ((p + 1 : Nat) : Int)) 3))) K dX9_from_51 fl_X9_78 rfl rfl rfl ?_
      rw [show ((zu1 h 3 ((p + 1 : Nat) : Int)) 3) = ((p + 1 : Nat) : Int) from rfl]
      refine z_iconst K dX9_from_54 ?_
      refine z_isub K dX9_from_55 ?_
      rw [show (((p + 1 : Nat) : Int) - (1 : Int)) = ((p : Nat) : Int) from (by omega)]
      refine z_iald (k := 40) (v := μ 40 p) K dX9_from_56 p rfl (by decide) (by omega) (by omega) rfl ?_
      refine z_iload_n K dX9_from_57 rfl ?_
      refine z_isub K dX9_from_58 ?_
      exact z_iretd K T rfl dX9_from_59 (by rw [if_pos (show (p < t ∧ a ≤ μ 40 p - f ∧ μ 40 p - f ≤ b) by omega)]) (by rw [if_pos (show (p < t ∧ a ≤ μ 40 p - f ∧ μ 40 p - f ≤ b) by omega)])
    · refine z_bipush K dX9_from_33 (by decide +kernel) ?_
      exact z_iretd K T rfl dX9_from_35 (by rw [if_neg (show ¬ (p < t ∧ a ≤ μ 40 p - f ∧ μ 40 p - f ≤ b) by omega)]) (by rw [if_neg (show ¬ (p < t ∧ a ≤ μ 40 p - f ∧ μ 40 p - f ≤ b) by omega)])
