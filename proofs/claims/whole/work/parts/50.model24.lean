/-- the best set of those below b, as the reference goes -/
def zqb (t : Nat → Bool) (ly : Nat) : Nat → Nat
  | 0 => ly
  | b + 1 => if b &&& (63 ^^^ ly) = 0 ∧ (zpop b < zpop (zqb t ly b) ∨ zpop b = zpop (zqb t ly b) ∧ b < zqb t ly b) ∧ t b = true then b else zqb t ly b
theorem zqb_s (t : Nat → Bool) (ly b : Nat) : zqb t ly (b + 1) = if b &&& (63 ^^^ ly) = 0 ∧ (zpop b < zpop (zqb t ly b) ∨ zpop b = zpop (zqb t ly b) ∧ b < zqb t ly b) ∧ t b = true then b else zqb t ly b := rfl
def zqs (t : Nat → Bool) (ly b : Nat) : Prop := b &&& (63 ^^^ ly) = 0 ∧ t b = true
theorem zqb_is (t : Nat → Bool) {ly : Nat} (hly : ly < 64) : ∀ b, b ≤ 64 → (zqb t ly b = ly ∨ (zqs t ly (zqb t ly b) ∧ zqb t ly b < 64)) ∧ ∀ y, y < b → zqs t ly y → 64 * zpop (zqb t ly b) + zqb t ly b ≤ 64 * zpop y + y := by
  intro b
  induction b with
  | zero => intro _; exact ⟨Or.inl rfl, fun y hy => absurd hy (by omega)⟩
  | succ b ih =>
    intro hb
    obtain ⟨h1, h2⟩ := ih (by omega)
    have h64 : zqb t ly b < 64 := by
      rcases h1 with h1 | h1
      · omega
      · exact h1.2
    rw [zqb_s]
    split
    · rename_i hc
      refine ⟨Or.inr ⟨⟨hc.1, hc.2.2⟩, by omega⟩, fun y hy hq => ?_⟩
      by_cases e : y = b
      · subst e; exact Nat.le_refl _
      · have := h2 y (by omega) hq
        have := hc.2.1
        omega
    · rename_i hc
      refine ⟨h1, fun y hy hq => ?_⟩
      by_cases e : y = b
      · subst e
        have : ¬ (zpop y < zpop (zqb t ly y) ∨ zpop y = zpop (zqb t ly y) ∧ y < zqb t ly y) := fun q => hc ⟨hq.1, q, hq.2⟩
        omega
      · exact h2 y (by omega) hq
theorem zqi_is (t : Nat → Bool) (ly k : Nat) : ∀ r b, (∃ x, zqi t ly k r b = some x ∧ b ≤ x ∧ x < b + r ∧ zqs t ly x ∧ zpop x = k ∧ ∀ y, b ≤ y → y < x → zqs t ly y → zpop y ≠ k) ∨ (zqi t ly k r b = none ∧ ∀ y, b ≤ y → y < b + r → zqs t ly y → zpop y ≠ k) := by
  intro r
  induction r with
  | zero => intro b; exact Or.inr ⟨rfl, fun y h1 h2 => absurd h1 (by omega)⟩
  | succ r ih =>
    intro b
    rw [zqi_s]
    split
    · rename_i hc
      exact Or.inl ⟨b, rfl, Nat.le_refl _, by omega, ⟨hc.1, hc.2.2⟩, hc.2.1, fun y h1 h2 => absurd h1 (by omega)⟩
    · rename_i hc
      have hb : zqs t ly b → zpop b ≠ k := fun q e => hc ⟨q.1, e, q.2⟩
      rcases ih (b + 1) with ⟨x, h1, h2, h3, h4, h5, h6⟩ | ⟨h1, h2⟩
      · refine Or.inl ⟨x, h1, by omega, by omega, h4, h5, fun y g1 g2 => ?_⟩
        by_cases e : y = b
        · subst e; exact hb
        · exact h6 y (by omega) g2
      · refine Or.inr ⟨h1, fun y g1 g2 => ?_⟩
        by_cases e : y = b
        · subst e; exact hb
        · exact h2 y (by omega) (by omega)
theorem zqo_is (t : Nat → Bool) {ly : Nat} (hly : ly < 64) : ∀ r k, (zqs t ly (zqo t ly r k) ∧ zqo t ly r k ≤ ly ∧ ∀ y, y ≤ ly → zqs t ly y → k ≤ zpop y → 64 * zpop (zqo t ly r k) + zqo t ly r k ≤ 64 * zpop y + y) ∨ (zqo t ly r k = ly ∧ ∀ y, y ≤ ly → zqs t ly y → ¬ (k ≤ zpop y ∧ zpop y < k + r)) := by
  intro r
  induction r with
  | zero => intro k; exact Or.inr ⟨rfl, fun y _ _ => by omega⟩
  | succ r ih =>
    intro k
    rw [zqo_s]
    rcases zqi_is t ly k (ly + 1) 0 with ⟨x, h1, h2, h3, h4, h5, h6⟩ | ⟨h1, h2⟩
    · rw [h1]
      refine Or.inl ⟨h4, by show x ≤ ly; omega, fun y g1 g2 g3 => ?_⟩
      show 64 * zpop x + x ≤ 64 * zpop y + y
      by_cases e : zpop y = k
      · by_cases e2 : y < x
        · exact absurd e (h6 y (by omega) e2 g2)
        · omega
      · omega
    · rw [h1]
      show (zqs t ly (zqo t ly r (k + 1)) ∧ zqo t ly r (k + 1) ≤ ly ∧ _) ∨ (zqo t ly r (k + 1) = ly ∧ _)
      rcases ih (k + 1) with ⟨i1, i2, i3⟩ | ⟨i1, i2⟩
      · refine Or.inl ⟨i1, i2, fun y g1 g2 g3 => i3 y g1 g2 ?_⟩
        have := h2 y (by omega) (by omega) g2
        omega
      · refine Or.inr ⟨i1, fun y g1 g2 => ?_⟩
        have h8 := h2 y (by omega) (by omega) g2
        have h9 := i2 y g1 g2
        omega
theorem zsub_le : ∀ b, b < 64 → ∀ ly, ly < 64 → b &&& (63 ^^^ ly) = 0 → b ≤ ly ∧ 64 * zpop b + b ≤ 64 * zpop ly + ly := by decide +kernel
theorem zpop_63 : ∀ b, b < 64 → 6 ≤ zpop b → b = 63 := by decide +kernel
theorem zqb_qo (t : Nat → Bool) {ly n : Nat} (hn : n ≤ 6) (hly : ly < 2 ^ n) : zqb t ly (2 ^ n) = zqo t ly 6 0 := by
  have hn2 : 2 ^ n ≤ 64 := Nat.pow_le_pow_right (n := 2) (by decide) hn
  have hly2 : ly < 64 := by omega
  obtain ⟨h1, h2⟩ := zqb_is t hly2 (2 ^ n) hn2
  rcases zqo_is t hly2 6 0 with ⟨i1, i2, i3⟩ | ⟨i1, i2⟩
  · have k1 := h2 _ (by omega) i1
    rcases h1 with h1 | ⟨h1, h3⟩
    · have k2 := (zsub_le _ (by omega) ly hly2 i1.1).2
      rw [h1] at k1 ⊢
      omega
    · have k3 := (zsub_le _ h3 ly hly2 h1.1).1
      have k2 := i3 _ k3 h1 (Nat.zero_le _)
      omega
  · rw [i1]
    rcases h1 with h1 | ⟨h1, h3⟩
    · exact h1
    · have k3 := (zsub_le _ h3 ly hly2 h1.1).1
      have k4 := i2 _ k3 h1
      have k5 := zpop_63 _ h3 (by omega)
      omega
set_option maxHeartbeats 4000000 in
set_option maxRecDepth 100000 in
theorem cq_quiet (la : Launch) (g0 : zG) (ad : Nat → Nat) (μ : zMem) (n nc : Nat) (kd al wt an c : Nat → Int) (hm : zMP μ n nc kd al wt an) (hw : zHV n nc c) (hg : zAg n nc 7 (μ 46) c) : zCon la g0 yX9_quiet cX9_quiet 5 (some .int) 7 ad zSH [.ref (ad 39)] μ (zPi (zQm μ ((zqo (zqu n kd al nc an c) (zwho c 0 n) 6 0 : Nat) : Int))) := by
  refine zCon_of (by decide +kernel) (Nat.le_of_ble_eq_true rfl) ?_
  intro χ K T hl1 hg1
  have K : zOk χ cX9_quiet RX9 5 7 (some .int) := K
  obtain ⟨hn, hnc, hpl, hpa, hpk⟩ := id hm
  have hn6 := hpk.1
  have hnc3 := hpk.2.1
  have hlyn := zwho_lt c 0 n
  have h64 : 2 ^ n ≤ 64 := Nat.pow_le_pow_right (n := 2) (by decide) hn6
  have hly : zwho c 0 n < 64 := by omega
  refine z_mem (ν := zup (zup (zup μ 39 (μ 39)) 47 (μ 47)) 53 (μ 53)) (zup_id3 μ 39 47 53 (by decide) (by decide) (by decide)) ?_
  show zV χ 5 ad zSH 0 0 0 [(0, .ref (ad 39))] [] (zup (zup (zup μ 39 (μ 39)) 47 (μ 47)) 53 (μ 53))
  refine z_aload_n K dX9_quiet_0 rfl ?_
  refine z_iconst K dX9_quiet_1 ?_
  refine z_puti (k := 39) K dX9_quiet_2 fp_X9_59 rfl rfl (z_mem (ν := zup (zup (zup μ 39 (zu1 (μ 39) 0 (0 : Int))) 47 (μ 47)) 53 (μ 53)) (zup_sw3 _ (by decide) (by decide) _ _ _ _) ?_)
  refine z_aload_n K dX9_quiet_5 rfl ?_
  refine z_aload_n K dX9_quiet_6 rfl ?_
  refine z_get (k := 39) (v := .ref (ad 46)) K dX9_quiet_7 fl_X9_28 rfl rfl rfl ?_
  refine z_iconst K dX9_quiet_10 ?_
  refine z_callVd K hl1 hg1 (kb := 39) (As := [.ref (ad 46), .int (zi (0 : Int))]) (rest := []) (cm_thatAre_g la g0 ad (zup (zup (zup μ 39 (zu1 (μ 39) 0 (0 : Int))) 47 (μ 47)) 53 (μ 53)) n nc 7 kd al wt an c hm hw.1 hg 0 ⟨by decide, by decide⟩) (by decide) lk_X9_122 cd_X9_thatAre rfl rfl rfl rfl (Nat.le_of_ble_eq_true rfl) dX9_quiet_11 ?_
  show zV χ 5 ad zSH 0 0 14 [(0, .ref (ad 39))] [.int (zi ((zwho c 0 n : Nat) : Int))] (zup (zup (zup μ 39 (zu1 (μ 39) 0 (0 : Int))) 47 (μ 47)) 53 (μ 53))
  refine z_istore_n (lv' := [(0, .ref (ad 39)), (1, .int (zi ((zwho c 0 n : Nat) : Int)))]) K dX9_quiet_14 (by decide) rfl ?_
  refine z_iload_n K dX9_quiet_15 rfl ?_
  refine z_istore_n (lv' := [(0, .ref (ad 39)), (1, .int (zi ((zwho c 0 n : Nat) : Int))), (2, .int (zi ((zwho c 0 n : Nat) : Int)))]) K dX9_quiet_16 (by decide) rfl ?_
  refine z_iconst K dX9_quiet_17 ?_
  refine z_istore_n (lv' := [(0, .ref (ad 39)), (1, .int (zi ((zwho c 0 n : Nat) : Int))), (2, .int (zi ((zwho c 0 n : Nat) : Int))), (3, .int (zi (0 : Int)))]) K dX9_quiet_18 (by decide) rfl ?_
  have L19 : ∀ b, b ≤ 2 ^ n → ∀ (g t a : Nat → Int), zFh (μ 39) g → zV χ 5 ad zSH 0 0 19 [(0, .ref (ad 39)), (1, .int (zi ((zwho c 0 n : Nat) : Int))), (2, .int (zi ((zqb (zqu n kd al nc an c) (zwho c 0 n) b : Nat) : Int))), (3, .int (zi ((b : Nat) : Int)))] [] (zup (zup (zup μ 39 g) 47 t) 53 a) := by
    refine zfor ?_
    intro b hb ih g t a hgf
    have hn9 : g 4 = (n : Int) := (hgf 4 (by decide)).trans hn
    have hqb : zqb (zqu n kd al nc an c) (zwho c 0 n) b < 64 := by
      rcases (zqb_is (zqu n kd al nc an c) hly b (by omega)).1 with h | h
      · omega
      · exact h.2
    refine z_iload_n K dX9_quiet_19 rfl ?_
    refine z_iconst K dX9_quiet_20 ?_
    refine z_aload_n K dX9_quiet_21 rfl ?_
    refine z_get (k := 39) (v := .int (zi (g 4))) K dX9_quiet_22 fl_X9_63 rfl rfl rfl ?_
    rw [show (g 4) = ((n : Nat) : Int) from hn9]
    refine z_ishlR (z := zi ((2 ^ n : Nat) : Int)) K dX9_quiet_25 (zb_shl n (by omega)) ?_
    refine z_icmpge (tgt := 96) K dX9_quiet_26 (by decide) (by omega) (by omega) (fun h26 => ?_) (fun h26 => ?_)
    · refine z_iload_n K dX9_quiet_96 rfl ?_
      exact z_ireti K T rfl dX9_quiet_97 ⟨by rw [show b = 2 ^ n by omega, zqb_qo _ hn6 hlyn], (zFr_c (zFr_c (zFr_h (zFr_0 μ) hgf) (by decide) _) (by decide) _)⟩
    · have hbb := zpop_le b
      have hb3 : b &&& (63 ^^^ zwho c 0 n) ≤ b := Nat.and_le_left
      have hbq := zpop_le (zqb (zqu n kd al nc an c) (zwho c 0 n) b)
      refine z_iload_n K dX9_quiet_29 rfl ?_
      refine z_iload_n K dX9_quiet_30 rfl ?_
      refine z_iconst K dX9_quiet_31 ?_
      refine z_ixorR (z := zi ((zwho c 0 n : Nat) : Int) ^^^ zi (-1)) K dX9_quiet_32 rfl ?_
      refine z_iandR (z := zi ((b &&& (63 ^^^ zwho c 0 n) : Nat) : Int)) K dX9_quiet_33 (zb_not b (by omega) _ hly) ?_
      refine z_ifne (tgt := 68) K dX9_quiet_34 (by decide) (by omega) (fun h34 => ?_) (fun h34 => ?_)
      · refine z_iconst K dX9_quiet_68 ?_
        refine z_istore (lv' := [(0, .ref (ad 39)), (1, .int (zi ((zwho c 0 n : Nat) : Int))), (2, .int (zi ((zqb (zqu n kd al nc an c) (zwho c 0 n) b : Nat) : Int))), (3, .int (zi ((b : Nat) : Int))), (4, .int (zi (0 : Int)))]) K dX9_quiet_69 (by decide) rfl ?_
        refine z_iload K dX9_quiet_71 rfl ?_
        refine z_ifeq (tgt := 88) K dX9_quiet_73 (by decide) ⟨by decide, by decide⟩ (fun h73 => ?_) (fun h73 => absurd h73 (by omega))
        refine z_iload_n K dX9_quiet_88 rfl ?_
        refine z_istore_n (lv' := [(0, .ref (ad 39)), (1, .int (zi ((zwho c 0 n : Nat) : Int))), (2, .int (zi ((zqb (zqu n kd al nc an c) (zwho c 0 n) b : Nat) : Int))), (3, .int (zi ((b : Nat) : Int))), (4, .int (zi (0 : Int)))]) K dX9_quiet_89 (by decide) rfl ?_
        refine z_iincN (lv' := [(0, .ref (ad 39)), (1, .int (zi ((zwho c 0 n : Nat) : Int))), (2, .int (zi ((zqb (zqu n kd al nc an c) (zwho c 0 n) b : Nat) : Int))), (3, .int (zi ((b + 1 : Nat) : Int))), (4, .int (zi (0 : Int)))]) K dX9_quiet_90 rfl (by decide) rfl ?_
        refine z_goto (tgt := 19) K dX9_quiet_93 (by decide) ?_
        refine z_ipick [0, 1, 2, 3] rfl ?_
        have e9 : zqb (zqu n kd al nc an c) (zwho c 0 n) (b + 1) = zqb (zqu n kd al nc an c) (zwho c 0 n) b := by
          rw [zqb_s, if_neg (by omega)]
        have q9 := ih (b + 1) (by omega) (by omega) (g) t a hgf
        rw [e9] at q9
        exact q9
      · refine z_iload_n K dX9_quiet_37 rfl ?_
        refine z_callSd K hl1 hg1 (As := [.int (zi ((b : Nat) : Int))]) (rest := []) (cm_many la g0 ad (zup (zup (zup μ 39 g) 47 t) 53 a) (b) (by omega)) (by decide) lk_X9_128 cd_X9_many rfl rfl (Nat.le_of_ble_eq_true rfl) dX9_quiet_38 ?_
        show zV χ 5 ad zSH 0 0 41 [(0, .ref (ad 39)), (1, .int (zi ((zwho c 0 n : Nat) : Int))), (2, .int (zi ((zqb (zqu n kd al nc an c) (zwho c 0 n) b : Nat) : Int))), (3, .int (zi ((b : Nat) : Int)))] [.int (zi ((zpop (b) : Nat) : Int))] (zup (zup (zup μ 39 g) 47 t) 53 a)
        refine z_iload_n K dX9_quiet_41 rfl ?_
        refine z_callSd K hl1 hg1 (As := [.int (zi ((zqb (zqu n kd al nc an c) (zwho c 0 n) b : Nat) : Int))]) (rest := [.int (zi ((zpop (b) : Nat) : Int))]) (cm_many la g0 ad (zup (zup (zup μ 39 g) 47 t) 53 a) (zqb (zqu n kd al nc an c) (zwho c 0 n) b) hqb) (by decide) lk_X9_128 cd_X9_many rfl rfl (Nat.le_of_ble_eq_true rfl) dX9_quiet_42 ?_
        show zV χ 5 ad zSH 0 0 45 [(0, .ref (ad 39)), (1, .int (zi ((zwho c 0 n : Nat) : Int))), (2, .int (zi ((zqb (zqu n kd al nc an c) (zwho c 0 n) b : Nat) : Int))), (3, .int (zi ((b : Nat) : Int)))] [.int (zi ((zpop (zqb (zqu n kd al nc an c) (zwho c 0 n) b) : Nat) : Int)), .int (zi ((zpop (b) : Nat) : Int))] (zup (zup (zup μ 39 g) 47 t) 53 a)
        refine z_icmplt (tgt := 64) K dX9_quiet_45 (by decide) (by omega) (by omega) (fun h45 => ?_) (fun h45 => ?_)
        · refine z_iconst K dX9_quiet_64 ?_
          refine z_goto (tgt := 69) K dX9_quiet_65 (by decide) ?_
          refine z_istore (lv' := [(0, .ref (ad 39)), (1, .int (zi ((zwho c 0 n : Nat) : Int))), (2, .int (zi ((zqb (zqu n kd al nc an c) (zwho c 0 n) b : Nat) : Int))), (3, .int (zi ((b : Nat) : Int))), (4, .int (zi (1 : Int)))]) K dX9_quiet_69 (by decide) rfl ?_
          refine z_iload K dX9_quiet_71 rfl ?_
          refine z_ifeq (tgt := 88) K dX9_quiet_73 (by decide) ⟨by decide, by decide⟩ (fun h73 => absurd h73 (by omega)) (fun h73 => ?_)
          refine z_aload_n K dX9_quiet_76 rfl ?_
          refine z_iload_n K dX9_quiet_77 rfl ?_
          refine z_callVi K hl1 hg1 (kb := 39) (As := [.int (zi ((b : Nat) : Int))]) (rest := []) (cm_isQuiet la g0 ad μ n nc kd al wt an c hm hw hg g t a hgf b (by omega)) (by decide) lk_X9_214 cd_X9_isQuiet rfl rfl rfl rfl (Nat.le_of_ble_eq_true rfl) dX9_quiet_78 (fun r ν h78 => ?_)
          obtain ⟨hr, t2, a2, hν⟩ := h78
          subst hr
          subst hν
          refine z_ifeq (tgt := 88) K dX9_quiet_81 (by decide) (by omega) (fun h81 => ?_) (fun h81 => ?_)
          · refine z_iload_n K dX9_quiet_88 rfl ?_
            refine z_istore_n (lv' := [(0, .ref (ad 39)), (1, .int (zi ((zwho c 0 n : Nat) : Int))), (2, .int (zi ((zqb (zqu n kd al nc an c) (zwho c 0 n) b : Nat) : Int))), (3, .int (zi ((b : Nat) : Int))), (4, .int (zi (1 : Int)))]) K dX9_quiet_89 (by decide) rfl ?_
            refine z_iincN (lv' := [(0, .ref (ad 39)), (1, .int (zi ((zwho c 0 n : Nat) : Int))), (2, .int (zi ((zqb (zqu n kd al nc an c) (zwho c 0 n) b : Nat) : Int))), (3, .int (zi ((b + 1 : Nat) : Int))), (4, .int (zi (1 : Int)))]) K dX9_quiet_90 rfl (by decide) rfl ?_
            refine z_goto (tgt := 19) K dX9_quiet_93 (by decide) ?_
            refine z_ipick [0, 1, 2, 3] rfl ?_
            have e9 : zqb (zqu n kd al nc an c) (zwho c 0 n) (b + 1) = zqb (zqu n kd al nc an c) (zwho c 0 n) b := by
              rw [zqb_s, if_neg (fun q9 => absurd h81 (by rw [if_pos q9.2.2]; decide))]
            have q9 := ih (b + 1) (by omega) (by omega) (zu1 g 24 (7 : Int)) t2 a2 (zFh_u hgf (by decide) _)
            rw [e9] at q9
            exact q9
          · refine z_iload_n K dX9_quiet_84 rfl ?_
            refine z_goto (tgt := 89) K dX9_quiet_85 (by decide) ?_
            refine z_istore_n (lv' := [(0, .ref (ad 39)), (1, .int (zi ((zwho c 0 n : Nat) : Int))), (2, .int (zi ((b : Nat) : Int))), (3, .int (zi ((b : Nat) : Int))), (4, .int (zi (1 : Int)))]) K dX9_quiet_89 (by decide) rfl ?_
            refine z_iincN (lv' := [(0, .ref (ad 39)), (1, .int (zi ((zwho c 0 n : Nat) : Int))), (2, .int (zi ((b : Nat) : Int))), (3, .int (zi ((b + 1 : Nat) : Int))), (4, .int (zi (1 : Int)))]) K dX9_quiet_90 rfl (by decide) rfl ?_
            refine z_goto (tgt := 19) K dX9_quiet_93 (by decide) ?_
            refine z_ipick [0, 1, 2, 3] rfl ?_
            have e9 : zqb (zqu n kd al nc an c) (zwho c 0 n) (b + 1) = b := by
              rw [zqb_s, if_pos ⟨by omega, by omega, Decidable.byContradiction (fun q9 => h81 (if_neg q9))⟩]
            have q9 := ih (b + 1) (by omega) (by omega) (zu1 g 24 (7 : Int)) t2 a2 (zFh_u hgf (by decide) _)
            rw [e9] at q9
            exact q9
        · refine z_iload_n K dX9_quiet_48 rfl ?_
          refine z_callSd K hl1 hg1 (As := [.int (zi ((b : Nat) : Int))]) (rest := []) (cm_many la g0 ad (zup (zup (zup μ 39 g) 47 t) 53 a) (b) (by omega)) (by decide) lk_X9_128 cd_X9_many rfl rfl (Nat.le_of_ble_eq_true rfl) dX9_quiet_49 ?_
          show zV χ 5 ad zSH 0 0 52 [(0, .ref (ad 39)), (1, .int (zi ((zwho c 0 n : Nat) : Int))), (2, .int (zi ((zqb (zqu n kd al nc an c) (zwho c 0 n) b : Nat) : Int))), (3, .int (zi ((b : Nat) : Int)))] [.int (zi ((zpop (b) : Nat) : Int))] (zup (zup (zup μ 39 g) 47 t) 53 a)
          refine z_iload_n K dX9_quiet_52 rfl ?_
          refine z_callSd K hl1 hg1 (As := [.int (zi ((zqb (zqu n kd al nc an c) (zwho c 0 n) b : Nat) : Int))]) (rest := [.int (zi ((zpop (b) : Nat) : Int))]) (cm_many la g0 ad (zup (zup (zup μ 39 g) 47 t) 53 a) (zqb (zqu n kd al nc an c) (zwho c 0 n) b) hqb) (by decide) lk_X9_128 cd_X9_many rfl rfl (Nat.le_of_ble_eq_true rfl) dX9_quiet_53 ?_
          show zV χ 5 ad zSH 0 0 56 [(0, .ref (ad 39)), (1, .int (zi ((zwho c 0 n : Nat) : Int))), (2, .int (zi ((zqb (zqu n kd al nc an c) (zwho c 0 n) b : Nat) : Int))), (3, .int (zi ((b : Nat) : Int)))] [.int (zi ((zpop (zqb (zqu n kd al nc an c) (zwho c 0 n) b) : Nat) : Int)), .int (zi ((zpop (b) : Nat) : Int))] (zup (zup (zup μ 39 g) 47 t) 53 a)
          refine z_icmpne (tgt := 68) K dX9_quiet_56 (by decide) (by omega) (by omega) (fun h56 => ?_) (fun h56 => ?_)
          · refine z_iconst K dX9_quiet_68 ?_
            refine z_istore (lv' := [(0, .ref (ad 39)), (1, .int (zi ((zwho c 0 n : Nat) : Int))), (2, .int (zi ((zqb (zqu n kd al nc an c) (zwho c 0 n) b : Nat) : Int))), (3, .int (zi ((b : Nat) : Int))), (4, .int (zi (0 : Int)))]) K dX9_quiet_69 (by decide) rfl ?_
            refine z_iload K dX9_quiet_71 rfl ?_
            refine z_ifeq (tgt := 88) K dX9_quiet_73 (by decide) ⟨by decide, by decide⟩ (fun h73 => ?_) (fun h73 => absurd h73 (by omega))
            refine z_iload_n K dX9_quiet_88 rfl ?_
            refine z_istore_n (lv' := [(0, .ref (ad 39)), (1, .int (zi ((zwho c 0 n : Nat) : Int))), (2, .int (zi ((zqb (zqu n kd al nc an c) (zwho c 0 n) b : Nat) : Int))), (3, .int (zi ((b : Nat) : Int))), (4, .int (zi (0 : Int)))]) K dX9_quiet_89 (by decide) rfl ?_
            refine z_iincN (lv' := [(0, .ref (ad 39)), (1, .int (zi ((zwho c 0 n : Nat) : Int))), (2, .int (zi ((zqb (zqu n kd al nc an c) (zwho c 0 n) b : Nat) : Int))), (3, .int (zi ((b + 1 : Nat) : Int))), (4, .int (zi (0 : Int)))]) K dX9_quiet_90 rfl (by decide) rfl ?_
            refine z_goto (tgt := 19) K dX9_quiet_93 (by decide) ?_
            refine z_ipick [0, 1, 2, 3] rfl ?_
            have e9 : zqb (zqu n kd al nc an c) (zwho c 0 n) (b + 1) = zqb (zqu n kd al nc an c) (zwho c 0 n) b := by
              rw [zqb_s, if_neg (by omega)]
            have q9 := ih (b + 1) (by omega) (by omega) (g) t a hgf
            rw [e9] at q9
            exact q9
          · refine z_iload_n K dX9_quiet_59 rfl ?_
            refine z_iload_n K dX9_quiet_60 rfl ?_
            refine z_icmpge (tgt := 68) K dX9_quiet_61 (by decide) (by omega) (by omega) (fun h61 => ?_) (fun h61 => ?_)
            · refine z_iconst K dX9_quiet_68 ?_
              refine z_istore (lv' := [(0, .ref (ad 39)), (1, .int (zi ((zwho c 0 n : Nat) : Int))), (2, .int (zi ((zqb (zqu n kd al nc an c) (zwho c 0 n) b : Nat) : Int))), (3, .int (zi ((b : Nat) : Int))), (4, .int (zi (0 : Int)))]) K dX9_quiet_69 (by decide) rfl ?_
              refine z_iload K dX9_quiet_71 rfl ?_
              refine z_ifeq (tgt := 88) K dX9_quiet_73 (by decide) ⟨by decide, by decide⟩ (fun h73 => ?_) (fun h73 => absurd h73 (by omega))
              refine z_iload_n K dX9_quiet_88 rfl ?_
              refine z_istore_n (lv' := [(0, .ref (ad 39)), (1, .int (zi ((zwho c 0 n : Nat) : Int))), (2, .int (zi ((zqb (zqu n kd al nc an c) (zwho c 0 n) b : Nat) : Int))), (3, .int (zi ((b : Nat) : Int))), (4, .int (zi (0 : Int)))]) K dX9_quiet_89 (by decide) rfl ?_
              refine z_iincN (lv' := [(0, .ref (ad 39)), (1, .int (zi ((zwho c 0 n : Nat) : Int))), (2, .int (zi ((zqb (zqu n kd al nc an c) (zwho c 0 n) b : Nat) : Int))), (3, .int (zi ((b + 1 : Nat) : Int))), (4, .int (zi (0 : Int)))]) K dX9_quiet_90 rfl (by decide) rfl ?_
              refine z_goto (tgt := 19) K dX9_quiet_93 (by decide) ?_
              refine z_ipick [0, 1, 2, 3] rfl ?_
              have e9 : zqb (zqu n kd al nc an c) (zwho c 0 n) (b + 1) = zqb (zqu n kd al nc an c) (zwho c 0 n) b := by
                rw [zqb_s, if_neg (by omega)]
              have q9 := ih (b + 1) (by omega) (by omega) (g) t a hgf
              rw [e9] at q9
              exact q9
            · refine z_iconst K dX9_quiet_64 ?_
              refine z_goto (tgt := 69) K dX9_quiet_65 (by decide) ?_
              refine z_istore (lv' := [(0, .ref (ad 39)), (1, .int (zi ((zwho c 0 n : Nat) : Int))), (2, .int (zi ((zqb (zqu n kd al nc an c) (zwho c 0 n) b : Nat) : Int))), (3, .int (zi ((b : Nat) : Int))), (4, .int (zi (1 : Int)))]) K dX9_quiet_69 (by decide) rfl ?_
              refine z_iload K dX9_quiet_71 rfl ?_
              refine z_ifeq (tgt := 88) K dX9_quiet_73 (by decide) ⟨by decide, by decide⟩ (fun h73 => absurd h73 (by omega)) (fun h73 => ?_)
              refine z_aload_n K dX9_quiet_76 rfl ?_
              refine z_iload_n K dX9_quiet_77 rfl ?_
              refine z_callVi K hl1 hg1 (kb := 39) (As := [.int (zi ((b : Nat) : Int))]) (rest := []) (cm_isQuiet la g0 ad μ n nc kd al wt an c hm hw hg g t a hgf b (by omega)) (by decide) lk_X9_214 cd_X9_isQuiet rfl rfl rfl rfl (Nat.le_of_ble_eq_true rfl) dX9_quiet_78 (fun r ν h78 => ?_)
              obtain ⟨hr, t2, a2, hν⟩ := h78
              subst hr
              subst hν
              refine z_ifeq (tgt := 88) K dX9_quiet_81 (by decide) (by omega) (fun h81 => ?_) (fun h81 => ?_)
              · refine z_iload_n K dX9_quiet_88 rfl ?_
                refine z_istore_n (lv' := [(0, .ref (ad 39)), (1, .int (zi ((zwho c 0 n : Nat) : Int))), (2, .int (zi ((zqb (zqu n kd al nc an c) (zwho c 0 n) b : Nat) : Int))), (3, .int (zi ((b : Nat) : Int))), (4, .int (zi (1 : Int)))]) K dX9_quiet_89 (by decide) rfl ?_
                refine z_iincN (lv' := [(0, .ref (ad 39)), (1, .int (zi ((zwho c 0 n : Nat) : Int))), (2, .int (zi ((zqb (zqu n kd al nc an c) (zwho c 0 n) b : Nat) : Int))), (3, .int (zi ((b + 1 : Nat) : Int))), (4, .int (zi (1 : Int)))]) K dX9_quiet_90 rfl (by decide) rfl ?_
                refine z_goto (tgt := 19) K dX9_quiet_93 (by decide) ?_
                refine z_ipick [0, 1, 2, 3] rfl ?_
                have e9 : zqb (zqu n kd al nc an c) (zwho c 0 n) (b + 1) = zqb (zqu n kd al nc an c) (zwho c 0 n) b := by
                  rw [zqb_s, if_neg (fun q9 => absurd h81 (by rw [if_pos q9.2.2]; decide))]
                have q9 := ih (b + 1) (by omega) (by omega) (zu1 g 24 (7 : Int)) t2 a2 (zFh_u hgf (by decide) _)
                rw [e9] at q9
                exact q9
              · refine z_iload_n K dX9_quiet_84 rfl ?_
                refine z_goto (tgt := 89) K dX9_quiet_85 (by decide) ?_
                refine z_istore_n (lv' := [(0, .ref (ad 39)), (1, .int (zi ((zwho c 0 n : Nat) : Int))), (2, .int (zi ((b : Nat) : Int))), (3, .int (zi ((b : Nat) : Int))), (4, .int (zi (1 : Int)))]) K dX9_quiet_89 (by decide) rfl ?_
                refine z_iincN (lv' := [(0, .ref (ad 39)), (1, .int (zi ((zwho c 0 n : Nat) : Int))), (2, .int (zi ((b : Nat) : Int))), (3, .int (zi ((b + 1 : Nat) : Int))), (4, .int (zi (1 : Int)))]) K dX9_quiet_90 rfl (by decide) rfl ?_
                refine z_goto (tgt := 19) K dX9_quiet_93 (by decide) ?_
                refine z_ipick [0, 1, 2, 3] rfl ?_
                have e9 : zqb (zqu n kd al nc an c) (zwho c 0 n) (b + 1) = b := by
                  rw [zqb_s, if_pos ⟨by omega, by omega, Decidable.byContradiction (fun q9 => h81 (if_neg q9))⟩]
                have q9 := ih (b + 1) (by omega) (by omega) (zu1 g 24 (7 : Int)) t2 a2 (zFh_u hgf (by decide) _)
                rw [e9] at q9
                exact q9
  exact L19 0 (Nat.zero_le _) _ _ _ (zFh_u (zFh_0 _) (by decide) _)
