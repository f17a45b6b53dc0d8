-- bits of small numbers, memory in one form, counts by loops
theorem zb_or (a b : Nat) : zi (a : Int) ||| zi (b : Int) = zi ((a ||| b : Nat) : Int) := by
  rw [zi_nat, zi_nat, zi_nat]
  apply Int32.toBitVec_inj.mp
  show BitVec.ofNat 32 a ||| BitVec.ofNat 32 b = BitVec.ofNat 32 (a ||| b)
  exact BitVec.ofNat_or.symm
theorem zb_and (a b : Nat) : zi (a : Int) &&& zi (b : Int) = zi ((a &&& b : Nat) : Int) := by
  rw [zi_nat, zi_nat, zi_nat]
  apply Int32.toBitVec_inj.mp
  show BitVec.ofNat 32 a &&& BitVec.ofNat 32 b = BitVec.ofNat 32 (a &&& b)
  exact BitVec.ofNat_and.symm
theorem zb_shl : ∀ l : Nat, l < 16 → zi 1 <<< (zi (l : Int) &&& 31) = zi ((2 ^ l : Nat) : Int) := by decide +kernel
theorem z_iincN {χ : zX} {cc : ByteArray} {own : String} {nL d : Nat} {ret : Option FieldType} {ad : Nat → Nat} {sh : List zE} {n1 n2 pc : Nat} {lv : List (Nat × Value)} {st : List Value} {μ : zMem} {i a : Nat} {lv' : List (Nat × Value)} (K : zOk χ cc own nL d ret) (dg : decode cc pc = .ok (.iinc i 1, 3)) (h : zlu i lv = some (.int (zi (a : Int)))) (hi : i < nL) (hv : zst1 i (.int (zi ((a + 1 : Nat) : Int))) lv = lv')
    (kk : zV χ nL ad sh n1 n2 (pc + 3) lv' st μ) : zV χ nL ad sh n1 n2 pc lv st μ := z_iinc K dg h hi hv kk
theorem z_mem {χ : zX} {nL : Nat} {ad : Nat → Nat} {sh : List zE} {n1 n2 pc : Nat} {lv : List (Nat × Value)} {st : List Value} {μ ν : zMem} (h : μ = ν) (kk : zV χ nL ad sh n1 n2 pc lv st ν) : zV χ nL ad sh n1 n2 pc lv st μ := h ▸ kk
theorem zup_same (μ : zMem) (k : Nat) (c d : Nat → Int) : zup (zup μ k c) k d = zup μ k d := by
  funext q; unfold zup; split <;> rfl
theorem zup_sw (μ : zMem) {k i : Nat} (h : i ≠ k) (c a d : Nat → Int) : zup (zup (zup μ k c) i a) k d = zup (zup μ k d) i a := by
  funext q; unfold zup
  by_cases h1 : q = k
  · subst h1; simp [Ne.symm h]
  · simp [h1]
theorem zup_sw3 (μ : zMem) {k i j : Nat} (h : i ≠ k) (h2 : j ≠ k) (c a b d : Nat → Int) : zup (zup (zup (zup μ k c) i a) j b) k d = zup (zup (zup μ k d) i a) j b := by
  funext q; unfold zup
  by_cases h1 : q = k
  · subst h1; simp [Ne.symm h, Ne.symm h2]
  · simp [h1]
theorem zup_sw4 (μ : zMem) {k i j m : Nat} (h : i ≠ k) (h2 : j ≠ k) (h3 : m ≠ k) (c a b e d : Nat → Int) : zup (zup (zup (zup (zup μ k c) i a) j b) m e) k d = zup (zup (zup (zup μ k d) i a) j b) m e := by
  funext q; unfold zup
  by_cases h1 : q = k
  · subst h1; simp [Ne.symm h, Ne.symm h2, Ne.symm h3]
  · simp [h1]
theorem zup_id (μ : zMem) (k : Nat) : μ = zup μ k (μ k) := by
  funext q; unfold zup; split
  · rename_i h; rw [h]
  · rfl
theorem zup_id2 (μ : zMem) (k i : Nat) (h : i ≠ k) : μ = zup (zup μ k (μ k)) i (μ i) := by
  funext q; unfold zup; split
  · rename_i h; rw [h]
  · split
    · rename_i h; rw [h]
    · rfl
theorem arrV_congr (cI : ClassId) (N : Nat) {f g : Nat → Value} (h : ∀ j, j < N → f j = g j) : arrV cI N f = arrV cI N g := by
  unfold arrV
  congr 2
  funext j
  exact h j.val j.isLt
-- a cell's content beyond its length is nothing
theorem z_eqv {χ : zX} {nL : Nat} {ad : Nat → Nat} {sh : List zE} {n1 n2 pc : Nat} {lv : List (Nat × Value)} {st : List Value} {μ ν : zMem} {k n : Nat} {b : Bool} (hs : sh[k]? = some (.inl (b, n))) (h1 : ∀ q, q ≠ k → μ q = ν q) (h2 : ∀ j, j < n → μ k j = ν k j) (kk : zV χ nL ad sh n1 n2 pc lv st ν) : zV χ nL ad sh n1 n2 pc lv st μ := by
  obtain ⟨p, l, e, R, s, m, args, below, meth, c, g, A, H0, Post, rc, rs⟩ := χ
  intro H locs ls hP hD hS hl
  refine kk H locs ls ?_ (zD_mem ν hD) hS hl
  intro i q hq
  obtain ⟨e, h3, rfl⟩ := zw_inv hq
  have h4 := hP i _ (zw_at h3)
  by_cases hi : i = k
  · subst hi
    rw [hs] at h3
    cases h3
    have e5 : ∀ cA : ClassId, vp_cell cA (n, .inl (fun j => zi (ν i j))) = vp_cell cA (n, .inl (fun j => zi (μ i j))) := by
      intro cA
      rw [vp_cell_i, vp_cell_i]
      exact (arrV_congr cA n (fun j hj => by rw [h2 j hj]))
    cases b
    · exact h4.trans (congrArg some (e5 _).symm)
    · exact h4.trans (congrArg some (e5 _).symm)
  · rw [← h1 i hi]
    exact h4
