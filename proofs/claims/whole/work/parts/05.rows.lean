-- locals
def zins (k : Nat) (v : Value) : List (Nat × Value) → List (Nat × Value)
  | [] => [(k, v)]
  | q :: t => if k < q.1 then (k, v) :: q :: t else q :: zins k v t
theorem zins_mem {k : Nat} {v : Value} : ∀ {l : List (Nat × Value)} {q : Nat × Value}, q ∈ zins k v l → q = (k, v) ∨ q ∈ l
  | [], q, h => by simp [zins] at h; exact Or.inl h
  | r :: t, q, h => by
    unfold zins at h
    split at h
    · rcases List.mem_cons.mp h with h | h
      · exact Or.inl h
      · exact Or.inr h
    · rcases List.mem_cons.mp h with h | h
      · exact Or.inr (h ▸ List.mem_cons_self)
      · rcases zins_mem h with h | h
        · exact Or.inl h
        · exact Or.inr (List.mem_cons_of_mem _ h)
def zst1 (k : Nat) (v : Value) (lv : List (Nat × Value)) : List (Nat × Value) := zins k v (lv.filter (fun q => !(q.1 == k) && !(q.1 + 1 == k && q.2.category == 2)))
def zst2 (k : Nat) (v : Value) (lv : List (Nat × Value)) : List (Nat × Value) := zins k v (lv.filter (fun q => !(q.1 == k) && (!(q.1 == k + 1) && !(q.1 + 1 == k && q.2.category == 2))))
theorem zins_has {ls : Array Slot} {nL k : Nat} {v : Value} {l : List (Nat × Value)} (h : lv_has ls nL ((k, v) :: l)) : lv_has ls nL (zins k v l) := by
  refine ⟨h.1, h.2.1, fun q hq => h.2.2 q ?_⟩
  rcases zins_mem hq with h | h
  · exact h ▸ List.mem_cons_self
  · exact List.mem_cons_of_mem _ h
def zlu (k : Nat) : List (Nat × Value) → Option Value
  | [] => none
  | q :: t => if q.1 = k then some q.2 else zlu k t
theorem zlu_mem {k : Nat} {v : Value} : ∀ {l : List (Nat × Value)}, zlu k l = some v → (k, v) ∈ l
  | [], h => by cases h
  | r :: t, h => by
    unfold zlu at h
    split at h
    · rename_i e
      cases h
      subst e
      exact List.mem_cons_self
    · exact List.mem_cons_of_mem _ (zlu_mem h)
theorem zlk {ls : Array Slot} {nL k : Nat} {v : Value} {l : List (Nat × Value)} (hl : lv_has ls nL l) (h : zlu k l = some v) : ls[k]? = some (.val v) := hl.2.2 _ (zlu_mem h)
-- fewer or other locals
theorem z_sub {χ : zX} {nL : Nat} {ad : Nat → Nat} {sh : List zE} {n1 n2 pc : Nat} {lv lv' : List (Nat × Value)} {st : List Value} {μ : zMem} (h : ∀ q ∈ lv', q ∈ lv) (kk : zV χ nL ad sh n1 n2 pc lv' st μ) : zV χ nL ad sh n1 n2 pc lv st μ := by
  obtain ⟨p, l, e, R, s, m, args, below, meth, c, g, A, H0, Post, rc, rs⟩ := χ
  intro H locs ls hP hD hS hl
  exact kk H locs ls hP hD hS ⟨hl.1, hl.2.1, fun q hq => hl.2.2 q (h q hq)⟩
theorem z_iconst {χ : zX} {cc : ByteArray} {own : String} {nL d : Nat} {ret : Option FieldType} {ad : Nat → Nat} {sh : List zE} {n1 n2 pc : Nat} {lv : List (Nat × Value)} {st : List Value} {μ : zMem} {n : Int} (K : zOk χ cc own nL d ret) (dg : decode cc pc = .ok (.iconst n, 1)) 
    (kk : zV χ nL ad sh n1 n2 (pc + 1) lv (.int (zi n) :: st) μ) : zV χ nL ad sh n1 n2 pc lv st μ := by
  obtain ⟨p, l, e, R, s, m, args, below, meth, c, g, A, H0, Post, rc, rs⟩ := χ
  obtain ⟨hx, hb, hml, ho, ht, hn, hK, hlk, hret, hH, hA, hfr, hlo, hrc, hrs⟩ := K
  intro H locs ls hP hD hS hl
  exact lv_iconst hx hb dg rfl (kk H locs ls hP hD hS hl)
theorem z_bipush {χ : zX} {cc : ByteArray} {own : String} {nL d : Nat} {ret : Option FieldType} {ad : Nat → Nat} {sh : List zE} {n1 n2 pc : Nat} {lv : List (Nat × Value)} {st : List Value} {μ : zMem} {n : Int} (K : zOk χ cc own nL d ret) (dg : decode cc pc = .ok (.bipush n, 2)) (hv : (Int8.ofInt n).toInt32 = zi n)
    (kk : zV χ nL ad sh n1 n2 (pc + 2) lv (.int (zi n) :: st) μ) : zV χ nL ad sh n1 n2 pc lv st μ := by
  obtain ⟨p, l, e, R, s, m, args, below, meth, c, g, A, H0, Post, rc, rs⟩ := χ
  obtain ⟨hx, hb, hml, ho, ht, hn, hK, hlk, hret, hH, hA, hfr, hlo, hrc, hrs⟩ := K
  intro H locs ls hP hD hS hl
  exact lv_bipush hx hb dg hv (kk H locs ls hP hD hS hl)
theorem z_sipush {χ : zX} {cc : ByteArray} {own : String} {nL d : Nat} {ret : Option FieldType} {ad : Nat → Nat} {sh : List zE} {n1 n2 pc : Nat} {lv : List (Nat × Value)} {st : List Value} {μ : zMem} {n : Int} (K : zOk χ cc own nL d ret) (dg : decode cc pc = .ok (.sipush n, 3)) (hv : (Int16.ofInt n).toInt32 = zi n)
    (kk : zV χ nL ad sh n1 n2 (pc + 3) lv (.int (zi n) :: st) μ) : zV χ nL ad sh n1 n2 pc lv st μ := by
  obtain ⟨p, l, e, R, s, m, args, below, meth, c, g, A, H0, Post, rc, rs⟩ := χ
  obtain ⟨hx, hb, hml, ho, ht, hn, hK, hlk, hret, hH, hA, hfr, hlo, hrc, hrs⟩ := K
  intro H locs ls hP hD hS hl
  exact lv_sipush hx hb dg hv (kk H locs ls hP hD hS hl)
theorem z_lconst {χ : zX} {cc : ByteArray} {own : String} {nL d : Nat} {ret : Option FieldType} {ad : Nat → Nat} {sh : List zE} {n1 n2 pc : Nat} {lv : List (Nat × Value)} {st : List Value} {μ : zMem} {n : Fin 2} {z : Int} (K : zOk χ cc own nL d ret) (dg : decode cc pc = .ok (.lconst n, 1)) (hv : Int64.ofNat (n : Nat) = zl z)
    (kk : zV χ nL ad sh n1 n2 (pc + 1) lv (.long (zl z) :: st) μ) : zV χ nL ad sh n1 n2 pc lv st μ := by
  obtain ⟨p, l, e, R, s, m, args, below, meth, c, g, A, H0, Post, rc, rs⟩ := χ
  obtain ⟨hx, hb, hml, ho, ht, hn, hK, hlk, hret, hH, hA, hfr, hlo, hrc, hrs⟩ := K
  intro H locs ls hP hD hS hl
  exact lv_lconst hx hb dg hv (kk H locs ls hP hD hS hl)
theorem z_ldc2 {χ : zX} {cc : ByteArray} {own : String} {nL d : Nat} {ret : Option FieldType} {ad : Nat → Nat} {sh : List zE} {n1 n2 pc : Nat} {lv : List (Nat × Value)} {st : List Value} {μ : zMem} {i : Nat} {v : Int64} {z : Int} (K : zOk χ cc own nL d ret) (dg : decode cc pc = .ok (.ldc2_w i, 3)) (hc : Cond.constantLong own i v ∈ lw_g) (hv : v = zl z)
    (kk : zV χ nL ad sh n1 n2 (pc + 3) lv (.long (zl z) :: st) μ) : zV χ nL ad sh n1 n2 pc lv st μ := by
  obtain ⟨p, l, e, R, s, m, args, below, meth, c, g, A, H0, Post, rc, rs⟩ := χ
  obtain ⟨hx, hb, hml, ho, ht, hn, hK, hlk, hret, hH, hA, hfr, hlo, hrc, hrs⟩ := K
  intro H locs ls hP hD hS hl
  exact lv_ldc2 hx hb ho (ht _ (hv ▸ hc)) dg (kk H locs ls hP hD hS hl)
theorem z_ldcw {χ : zX} {cc : ByteArray} {own : String} {nL d : Nat} {ret : Option FieldType} {ad : Nat → Nat} {sh : List zE} {n1 n2 pc : Nat} {lv : List (Nat × Value)} {st : List Value} {μ : zMem} {i : Nat} {v : Int32} (K : zOk χ cc own nL d ret) (dg : decode cc pc = .ok (.ldc_w i, 3)) (hc : Cond.constant own i v ∈ lw_g)
    (kk : zV χ nL ad sh n1 n2 (pc + 3) lv (.int v :: st) μ) : zV χ nL ad sh n1 n2 pc lv st μ := by
  obtain ⟨p, l, e, R, s, m, args, below, meth, c, g, A, H0, Post, rc, rs⟩ := χ
  obtain ⟨hx, hb, hml, ho, ht, hn, hK, hlk, hret, hH, hA, hfr, hlo, hrc, hrs⟩ := K
  intro H locs ls hP hD hS hl
  exact lv_ldcw hx hb ho (ht _ hc) dg (kk H locs ls hP hD hS hl)
theorem z_iload_n {χ : zX} {cc : ByteArray} {own : String} {nL d : Nat} {ret : Option FieldType} {ad : Nat → Nat} {sh : List zE} {n1 n2 pc : Nat} {lv : List (Nat × Value)} {st : List Value} {μ : zMem} {k : Fin 4} {x : Int32} (K : zOk χ cc own nL d ret) (dg : decode cc pc = .ok (.iload_n k, 1)) (h : zlu (k : Nat) lv = some (.int x))
    (kk : zV χ nL ad sh n1 n2 (pc + 1) lv (.int x :: st) μ) : zV χ nL ad sh n1 n2 pc lv st μ := by
  obtain ⟨p, l, e, R, s, m, args, below, meth, c, g, A, H0, Post, rc, rs⟩ := χ
  obtain ⟨hx, hb, hml, ho, ht, hn, hK, hlk, hret, hH, hA, hfr, hlo, hrc, hrs⟩ := K
  intro H locs ls hP hD hS hl
  exact lv_iload_n hx hb dg rfl (zlk hl h) (kk H locs ls hP hD hS hl)
theorem z_iload {χ : zX} {cc : ByteArray} {own : String} {nL d : Nat} {ret : Option FieldType} {ad : Nat → Nat} {sh : List zE} {n1 n2 pc : Nat} {lv : List (Nat × Value)} {st : List Value} {μ : zMem} {i : Nat} {x : Int32} (K : zOk χ cc own nL d ret) (dg : decode cc pc = .ok (.iload i, 2)) (h : zlu i lv = some (.int x))
    (kk : zV χ nL ad sh n1 n2 (pc + 2) lv (.int x :: st) μ) : zV χ nL ad sh n1 n2 pc lv st μ := by
  obtain ⟨p, l, e, R, s, m, args, below, meth, c, g, A, H0, Post, rc, rs⟩ := χ
  obtain ⟨hx, hb, hml, ho, ht, hn, hK, hlk, hret, hH, hA, hfr, hlo, hrc, hrs⟩ := K
  intro H locs ls hP hD hS hl
  exact lv_iload hx hb dg (zlk hl h) (kk H locs ls hP hD hS hl)
theorem z_lload_n {χ : zX} {cc : ByteArray} {own : String} {nL d : Nat} {ret : Option FieldType} {ad : Nat → Nat} {sh : List zE} {n1 n2 pc : Nat} {lv : List (Nat × Value)} {st : List Value} {μ : zMem} {k : Fin 4} {x : Int64} (K : zOk χ cc own nL d ret) (dg : decode cc pc = .ok (.lload_n k, 1)) (h : zlu (k : Nat) lv = some (.long x))
    (kk : zV χ nL ad sh n1 n2 (pc + 1) lv (.long x :: st) μ) : zV χ nL ad sh n1 n2 pc lv st μ := by
  obtain ⟨p, l, e, R, s, m, args, below, meth, c, g, A, H0, Post, rc, rs⟩ := χ
  obtain ⟨hx, hb, hml, ho, ht, hn, hK, hlk, hret, hH, hA, hfr, hlo, hrc, hrs⟩ := K
  intro H locs ls hP hD hS hl
  exact lv_lload_n hx hb dg rfl (zlk hl h) (kk H locs ls hP hD hS hl)
theorem z_lload {χ : zX} {cc : ByteArray} {own : String} {nL d : Nat} {ret : Option FieldType} {ad : Nat → Nat} {sh : List zE} {n1 n2 pc : Nat} {lv : List (Nat × Value)} {st : List Value} {μ : zMem} {i : Nat} {x : Int64} (K : zOk χ cc own nL d ret) (dg : decode cc pc = .ok (.lload i, 2)) (h : zlu i lv = some (.long x))
    (kk : zV χ nL ad sh n1 n2 (pc + 2) lv (.long x :: st) μ) : zV χ nL ad sh n1 n2 pc lv st μ := by
  obtain ⟨p, l, e, R, s, m, args, below, meth, c, g, A, H0, Post, rc, rs⟩ := χ
  obtain ⟨hx, hb, hml, ho, ht, hn, hK, hlk, hret, hH, hA, hfr, hlo, hrc, hrs⟩ := K
  intro H locs ls hP hD hS hl
  exact lv_lload hx hb dg (zlk hl h) (kk H locs ls hP hD hS hl)
theorem z_aload_n {χ : zX} {cc : ByteArray} {own : String} {nL d : Nat} {ret : Option FieldType} {ad : Nat → Nat} {sh : List zE} {n1 n2 pc : Nat} {lv : List (Nat × Value)} {st : List Value} {μ : zMem} {k : Fin 4} {x : Nat} (K : zOk χ cc own nL d ret) (dg : decode cc pc = .ok (.aload_n k, 1)) (h : zlu (k : Nat) lv = some (.ref x))
    (kk : zV χ nL ad sh n1 n2 (pc + 1) lv (.ref x :: st) μ) : zV χ nL ad sh n1 n2 pc lv st μ := by
  obtain ⟨p, l, e, R, s, m, args, below, meth, c, g, A, H0, Post, rc, rs⟩ := χ
  obtain ⟨hx, hb, hml, ho, ht, hn, hK, hlk, hret, hH, hA, hfr, hlo, hrc, hrs⟩ := K
  intro H locs ls hP hD hS hl
  exact lv_aload_n hx hb dg rfl (zlk hl h) (kk H locs ls hP hD hS hl)
theorem z_aload {χ : zX} {cc : ByteArray} {own : String} {nL d : Nat} {ret : Option FieldType} {ad : Nat → Nat} {sh : List zE} {n1 n2 pc : Nat} {lv : List (Nat × Value)} {st : List Value} {μ : zMem} {i : Nat} {x : Nat} (K : zOk χ cc own nL d ret) (dg : decode cc pc = .ok (.aload i, 2)) (h : zlu i lv = some (.ref x))
    (kk : zV χ nL ad sh n1 n2 (pc + 2) lv (.ref x :: st) μ) : zV χ nL ad sh n1 n2 pc lv st μ := by
  obtain ⟨p, l, e, R, s, m, args, below, meth, c, g, A, H0, Post, rc, rs⟩ := χ
  obtain ⟨hx, hb, hml, ho, ht, hn, hK, hlk, hret, hH, hA, hfr, hlo, hrc, hrs⟩ := K
  intro H locs ls hP hD hS hl
  exact lv_aload hx hb dg (zlk hl h) (kk H locs ls hP hD hS hl)
theorem z_istore_n {χ : zX} {cc : ByteArray} {own : String} {nL d : Nat} {ret : Option FieldType} {ad : Nat → Nat} {sh : List zE} {n1 n2 pc : Nat} {lv : List (Nat × Value)} {st : List Value} {μ : zMem} {k : Fin 4} {x : Int32} {lv' : List (Nat × Value)} (K : zOk χ cc own nL d ret) (dg : decode cc pc = .ok (.istore_n k, 1)) (hi : (k : Nat) < nL) (hv : zst1 (k : Nat) (.int x) lv = lv')
    (kk : zV χ nL ad sh n1 n2 (pc + 1) lv' st μ) : zV χ nL ad sh n1 n2 pc lv (.int x :: st) μ := by
  obtain ⟨p, l, e, R, s, m, args, below, meth, c, g, A, H0, Post, rc, rs⟩ := χ
  obtain ⟨hx, hb, hml, ho, ht, hn, hK, hlk, hret, hH, hA, hfr, hlo, hrc, hrs⟩ := K
  intro H locs ls hP hD hS hl
  exact lv_istore_n hx hb dg rfl hl hi rfl (fun ls' hl' => kk H locs ls' hP hD hS (hv ▸ zins_has hl'))
theorem z_istore {χ : zX} {cc : ByteArray} {own : String} {nL d : Nat} {ret : Option FieldType} {ad : Nat → Nat} {sh : List zE} {n1 n2 pc : Nat} {lv : List (Nat × Value)} {st : List Value} {μ : zMem} {i : Nat} {x : Int32} {lv' : List (Nat × Value)} (K : zOk χ cc own nL d ret) (dg : decode cc pc = .ok (.istore i, 2)) (hi : i < nL) (hv : zst1 i (.int x) lv = lv')
    (kk : zV χ nL ad sh n1 n2 (pc + 2) lv' st μ) : zV χ nL ad sh n1 n2 pc lv (.int x :: st) μ := by
  obtain ⟨p, l, e, R, s, m, args, below, meth, c, g, A, H0, Post, rc, rs⟩ := χ
  obtain ⟨hx, hb, hml, ho, ht, hn, hK, hlk, hret, hH, hA, hfr, hlo, hrc, hrs⟩ := K
  intro H locs ls hP hD hS hl
  exact lv_istore hx hb dg hl hi rfl (fun ls' hl' => kk H locs ls' hP hD hS (hv ▸ zins_has hl'))
theorem z_astore_n {χ : zX} {cc : ByteArray} {own : String} {nL d : Nat} {ret : Option FieldType} {ad : Nat → Nat} {sh : List zE} {n1 n2 pc : Nat} {lv : List (Nat × Value)} {st : List Value} {μ : zMem} {k : Fin 4} {x : Nat} {lv' : List (Nat × Value)} (K : zOk χ cc own nL d ret) (dg : decode cc pc = .ok (.astore_n k, 1)) (hi : (k : Nat) < nL) (hv : zst1 (k : Nat) (.ref x) lv = lv')
    (kk : zV χ nL ad sh n1 n2 (pc + 1) lv' st μ) : zV χ nL ad sh n1 n2 pc lv (.ref x :: st) μ := by
  obtain ⟨p, l, e, R, s, m, args, below, meth, c, g, A, H0, Post, rc, rs⟩ := χ
  obtain ⟨hx, hb, hml, ho, ht, hn, hK, hlk, hret, hH, hA, hfr, hlo, hrc, hrs⟩ := K
  intro H locs ls hP hD hS hl
  exact lv_astore_n hx hb dg rfl hl hi rfl (fun ls' hl' => kk H locs ls' hP hD hS (hv ▸ zins_has hl'))
theorem z_astore {χ : zX} {cc : ByteArray} {own : String} {nL d : Nat} {ret : Option FieldType} {ad : Nat → Nat} {sh : List zE} {n1 n2 pc : Nat} {lv : List (Nat × Value)} {st : List Value} {μ : zMem} {i : Nat} {x : Nat} {lv' : List (Nat × Value)} (K : zOk χ cc own nL d ret) (dg : decode cc pc = .ok (.astore i, 2)) (hi : i < nL) (hv : zst1 i (.ref x) lv = lv')
    (kk : zV χ nL ad sh n1 n2 (pc + 2) lv' st μ) : zV χ nL ad sh n1 n2 pc lv (.ref x :: st) μ := by
  obtain ⟨p, l, e, R, s, m, args, below, meth, c, g, A, H0, Post, rc, rs⟩ := χ
  obtain ⟨hx, hb, hml, ho, ht, hn, hK, hlk, hret, hH, hA, hfr, hlo, hrc, hrs⟩ := K
  intro H locs ls hP hD hS hl
  exact lv_astore hx hb dg hl hi rfl (fun ls' hl' => kk H locs ls' hP hD hS (hv ▸ zins_has hl'))
theorem z_lstore_n {χ : zX} {cc : ByteArray} {own : String} {nL d : Nat} {ret : Option FieldType} {ad : Nat → Nat} {sh : List zE} {n1 n2 pc : Nat} {lv : List (Nat × Value)} {st : List Value} {μ : zMem} {k : Fin 4} {x : Int64} {lv' : List (Nat × Value)} (K : zOk χ cc own nL d ret) (dg : decode cc pc = .ok (.lstore_n k, 1)) (hi : (k : Nat) + 1 < nL) (hv : zst2 (k : Nat) (.long x) lv = lv')
    (kk : zV χ nL ad sh n1 n2 (pc + 1) lv' st μ) : zV χ nL ad sh n1 n2 pc lv (.long x :: st) μ := by
  obtain ⟨p, l, e, R, s, m, args, below, meth, c, g, A, H0, Post, rc, rs⟩ := χ
  obtain ⟨hx, hb, hml, ho, ht, hn, hK, hlk, hret, hH, hA, hfr, hlo, hrc, hrs⟩ := K
  intro H locs ls hP hD hS hl
  exact lv_lstore_n hx hb dg rfl hl hi rfl (fun ls' hl' => kk H locs ls' hP hD hS (hv ▸ zins_has hl'))
theorem z_lstore {χ : zX} {cc : ByteArray} {own : String} {nL d : Nat} {ret : Option FieldType} {ad : Nat → Nat} {sh : List zE} {n1 n2 pc : Nat} {lv : List (Nat × Value)} {st : List Value} {μ : zMem} {i : Nat} {x : Int64} {lv' : List (Nat × Value)} (K : zOk χ cc own nL d ret) (dg : decode cc pc = .ok (.lstore i, 2)) (hi : i + 1 < nL) (hv : zst2 i (.long x) lv = lv')
    (kk : zV χ nL ad sh n1 n2 (pc + 2) lv' st μ) : zV χ nL ad sh n1 n2 pc lv (.long x :: st) μ := by
  obtain ⟨p, l, e, R, s, m, args, below, meth, c, g, A, H0, Post, rc, rs⟩ := χ
  obtain ⟨hx, hb, hml, ho, ht, hn, hK, hlk, hret, hH, hA, hfr, hlo, hrc, hrs⟩ := K
  intro H locs ls hP hD hS hl
  exact lv_lstore hx hb dg hl hi rfl (fun ls' hl' => kk H locs ls' hP hD hS (hv ▸ zins_has hl'))
theorem z_iinc {χ : zX} {cc : ByteArray} {own : String} {nL d : Nat} {ret : Option FieldType} {ad : Nat → Nat} {sh : List zE} {n1 n2 pc : Nat} {lv : List (Nat × Value)} {st : List Value} {μ : zMem} {i : Nat} {n a : Int} {lv' : List (Nat × Value)} (K : zOk χ cc own nL d ret) (dg : decode cc pc = .ok (.iinc i n, 3)) (h : zlu i lv = some (.int (zi a))) (hi : i < nL) (hv : zst1 i (.int (zi (a + n))) lv = lv')
    (kk : zV χ nL ad sh n1 n2 (pc + 3) lv' st μ) : zV χ nL ad sh n1 n2 pc lv st μ := by
  obtain ⟨p, l, e, R, s, m, args, below, meth, c, g, A, H0, Post, rc, rs⟩ := χ
  obtain ⟨hx, hb, hml, ho, ht, hn, hK, hlk, hret, hH, hA, hfr, hlo, hrc, hrs⟩ := K
  intro H locs ls hP hD hS hl
  obtain ⟨k, hk⟩ := List.getElem?_of_mem (zlu_mem h)
  exact lv_iinc hx hb dg hl hk (zi_add a n) hi rfl (fun ls' hl' => kk H locs ls' hP hD hS (hv ▸ zins_has hl'))
theorem z_iadd {χ : zX} {cc : ByteArray} {own : String} {nL d : Nat} {ret : Option FieldType} {ad : Nat → Nat} {sh : List zE} {n1 n2 pc : Nat} {lv : List (Nat × Value)} {st : List Value} {μ : zMem} {a b : Int} (K : zOk χ cc own nL d ret) (dg : decode cc pc = .ok (.iadd, 1)) 
    (kk : zV χ nL ad sh n1 n2 (pc + 1) lv (.int (zi (a + b)) :: st) μ) : zV χ nL ad sh n1 n2 pc lv (.int (zi b) :: .int (zi a) :: st) μ := by
  obtain ⟨p, l, e, R, s, m, args, below, meth, c, g, A, H0, Post, rc, rs⟩ := χ
  obtain ⟨hx, hb, hml, ho, ht, hn, hK, hlk, hret, hH, hA, hfr, hlo, hrc, hrs⟩ := K
  intro H locs ls hP hD hS hl
  exact lv_iadd hx hb dg (by rw [zi_add]; exact kk H locs ls hP hD hS hl)
theorem z_isub {χ : zX} {cc : ByteArray} {own : String} {nL d : Nat} {ret : Option FieldType} {ad : Nat → Nat} {sh : List zE} {n1 n2 pc : Nat} {lv : List (Nat × Value)} {st : List Value} {μ : zMem} {a b : Int} (K : zOk χ cc own nL d ret) (dg : decode cc pc = .ok (.isub, 1)) 
    (kk : zV χ nL ad sh n1 n2 (pc + 1) lv (.int (zi (a - b)) :: st) μ) : zV χ nL ad sh n1 n2 pc lv (.int (zi b) :: .int (zi a) :: st) μ := by
  obtain ⟨p, l, e, R, s, m, args, below, meth, c, g, A, H0, Post, rc, rs⟩ := χ
  obtain ⟨hx, hb, hml, ho, ht, hn, hK, hlk, hret, hH, hA, hfr, hlo, hrc, hrs⟩ := K
  intro H locs ls hP hD hS hl
  exact lv_isub hx hb dg (by rw [zi_sub]; exact kk H locs ls hP hD hS hl)
theorem z_imul {χ : zX} {cc : ByteArray} {own : String} {nL d : Nat} {ret : Option FieldType} {ad : Nat → Nat} {sh : List zE} {n1 n2 pc : Nat} {lv : List (Nat × Value)} {st : List Value} {μ : zMem} {a b : Int} (K : zOk χ cc own nL d ret) (dg : decode cc pc = .ok (.imul, 1)) 
    (kk : zV χ nL ad sh n1 n2 (pc + 1) lv (.int (zi (a * b)) :: st) μ) : zV χ nL ad sh n1 n2 pc lv (.int (zi b) :: .int (zi a) :: st) μ := by
  obtain ⟨p, l, e, R, s, m, args, below, meth, c, g, A, H0, Post, rc, rs⟩ := χ
  obtain ⟨hx, hb, hml, ho, ht, hn, hK, hlk, hret, hH, hA, hfr, hlo, hrc, hrs⟩ := K
  intro H locs ls hP hD hS hl
  exact lv_imul hx hb dg (by rw [zi_mul]; exact kk H locs ls hP hD hS hl)
theorem z_ladd {χ : zX} {cc : ByteArray} {own : String} {nL d : Nat} {ret : Option FieldType} {ad : Nat → Nat} {sh : List zE} {n1 n2 pc : Nat} {lv : List (Nat × Value)} {st : List Value} {μ : zMem} {a b : Int} (K : zOk χ cc own nL d ret) (dg : decode cc pc = .ok (.ladd, 1)) 
    (kk : zV χ nL ad sh n1 n2 (pc + 1) lv (.long (zl (a + b)) :: st) μ) : zV χ nL ad sh n1 n2 pc lv (.long (zl b) :: .long (zl a) :: st) μ := by
  obtain ⟨p, l, e, R, s, m, args, below, meth, c, g, A, H0, Post, rc, rs⟩ := χ
  obtain ⟨hx, hb, hml, ho, ht, hn, hK, hlk, hret, hH, hA, hfr, hlo, hrc, hrs⟩ := K
  intro H locs ls hP hD hS hl
  exact lv_ladd hx hb dg (by rw [zl_add]; exact kk H locs ls hP hD hS hl)
theorem z_lsub {χ : zX} {cc : ByteArray} {own : String} {nL d : Nat} {ret : Option FieldType} {ad : Nat → Nat} {sh : List zE} {n1 n2 pc : Nat} {lv : List (Nat × Value)} {st : List Value} {μ : zMem} {a b : Int} (K : zOk χ cc own nL d ret) (dg : decode cc pc = .ok (.lsub, 1)) 
    (kk : zV χ nL ad sh n1 n2 (pc + 1) lv (.long (zl (a - b)) :: st) μ) : zV χ nL ad sh n1 n2 pc lv (.long (zl b) :: .long (zl a) :: st) μ := by
  obtain ⟨p, l, e, R, s, m, args, below, meth, c, g, A, H0, Post, rc, rs⟩ := χ
  obtain ⟨hx, hb, hml, ho, ht, hn, hK, hlk, hret, hH, hA, hfr, hlo, hrc, hrs⟩ := K
  intro H locs ls hP hD hS hl
  exact lv_lsub hx hb dg (by rw [zl_sub]; exact kk H locs ls hP hD hS hl)
theorem z_lmul {χ : zX} {cc : ByteArray} {own : String} {nL d : Nat} {ret : Option FieldType} {ad : Nat → Nat} {sh : List zE} {n1 n2 pc : Nat} {lv : List (Nat × Value)} {st : List Value} {μ : zMem} {a b : Int} (K : zOk χ cc own nL d ret) (dg : decode cc pc = .ok (.lmul, 1)) 
    (kk : zV χ nL ad sh n1 n2 (pc + 1) lv (.long (zl (a * b)) :: st) μ) : zV χ nL ad sh n1 n2 pc lv (.long (zl b) :: .long (zl a) :: st) μ := by
  obtain ⟨p, l, e, R, s, m, args, below, meth, c, g, A, H0, Post, rc, rs⟩ := χ
  obtain ⟨hx, hb, hml, ho, ht, hn, hK, hlk, hret, hH, hA, hfr, hlo, hrc, hrs⟩ := K
  intro H locs ls hP hD hS hl
  exact lv_lmul hx hb dg (by rw [zl_mul]; exact kk H locs ls hP hD hS hl)
theorem z_ineg {χ : zX} {cc : ByteArray} {own : String} {nL d : Nat} {ret : Option FieldType} {ad : Nat → Nat} {sh : List zE} {n1 n2 pc : Nat} {lv : List (Nat × Value)} {st : List Value} {μ : zMem} {a : Int} (K : zOk χ cc own nL d ret) (dg : decode cc pc = .ok (.ineg, 1)) 
    (kk : zV χ nL ad sh n1 n2 (pc + 1) lv (.int (zi (-a)) :: st) μ) : zV χ nL ad sh n1 n2 pc lv (.int (zi a) :: st) μ := by
  obtain ⟨p, l, e, R, s, m, args, below, meth, c, g, A, H0, Post, rc, rs⟩ := χ
  obtain ⟨hx, hb, hml, ho, ht, hn, hK, hlk, hret, hH, hA, hfr, hlo, hrc, hrs⟩ := K
  intro H locs ls hP hD hS hl
  exact lv_ineg hx hb dg (by first | (rw [zi_neg]; exact kk H locs ls hP hD hS hl) | (rw [Int32.zero_sub, zi_neg]; exact kk H locs ls hP hD hS hl) | (rw [show (0 : Int32) = zi 0 from rfl, zi_sub, Int.zero_sub]; exact kk H locs ls hP hD hS hl))
theorem z_iaddR {χ : zX} {cc : ByteArray} {own : String} {nL d : Nat} {ret : Option FieldType} {ad : Nat → Nat} {sh : List zE} {n1 n2 pc : Nat} {lv : List (Nat × Value)} {st : List Value} {μ : zMem} {x y z : Int32} (K : zOk χ cc own nL d ret) (dg : decode cc pc = .ok (.iadd, 1)) (hv : x + y = z)
    (kk : zV χ nL ad sh n1 n2 (pc + 1) lv (.int z :: st) μ) : zV χ nL ad sh n1 n2 pc lv (.int y :: .int x :: st) μ := by
  obtain ⟨p, l, e, R, s, m, args, below, meth, c, g, A, H0, Post, rc, rs⟩ := χ
  obtain ⟨hx, hb, hml, ho, ht, hn, hK, hlk, hret, hH, hA, hfr, hlo, hrc, hrs⟩ := K
  intro H locs ls hP hD hS hl
  exact lv_iadd hx hb dg (by rw [hv]; exact kk H locs ls hP hD hS hl)
theorem z_isubR {χ : zX} {cc : ByteArray} {own : String} {nL d : Nat} {ret : Option FieldType} {ad : Nat → Nat} {sh : List zE} {n1 n2 pc : Nat} {lv : List (Nat × Value)} {st : List Value} {μ : zMem} {x y z : Int32} (K : zOk χ cc own nL d ret) (dg : decode cc pc = .ok (.isub, 1)) (hv : x - y = z)
    (kk : zV χ nL ad sh n1 n2 (pc + 1) lv (.int z :: st) μ) : zV χ nL ad sh n1 n2 pc lv (.int y :: .int x :: st) μ := by
  obtain ⟨p, l, e, R, s, m, args, below, meth, c, g, A, H0, Post, rc, rs⟩ := χ
  obtain ⟨hx, hb, hml, ho, ht, hn, hK, hlk, hret, hH, hA, hfr, hlo, hrc, hrs⟩ := K
  intro H locs ls hP hD hS hl
  exact lv_isub hx hb dg (by rw [hv]; exact kk H locs ls hP hD hS hl)
theorem z_iandR {χ : zX} {cc : ByteArray} {own : String} {nL d : Nat} {ret : Option FieldType} {ad : Nat → Nat} {sh : List zE} {n1 n2 pc : Nat} {lv : List (Nat × Value)} {st : List Value} {μ : zMem} {x y z : Int32} (K : zOk χ cc own nL d ret) (dg : decode cc pc = .ok (.iand, 1)) (hv : x &&& y = z)
    (kk : zV χ nL ad sh n1 n2 (pc + 1) lv (.int z :: st) μ) : zV χ nL ad sh n1 n2 pc lv (.int y :: .int x :: st) μ := by
  obtain ⟨p, l, e, R, s, m, args, below, meth, c, g, A, H0, Post, rc, rs⟩ := χ
  obtain ⟨hx, hb, hml, ho, ht, hn, hK, hlk, hret, hH, hA, hfr, hlo, hrc, hrs⟩ := K
  intro H locs ls hP hD hS hl
  exact lv_iand hx hb dg (by rw [hv]; exact kk H locs ls hP hD hS hl)
theorem z_iorR {χ : zX} {cc : ByteArray} {own : String} {nL d : Nat} {ret : Option FieldType} {ad : Nat → Nat} {sh : List zE} {n1 n2 pc : Nat} {lv : List (Nat × Value)} {st : List Value} {μ : zMem} {x y z : Int32} (K : zOk χ cc own nL d ret) (dg : decode cc pc = .ok (.ior, 1)) (hv : x ||| y = z)
    (kk : zV χ nL ad sh n1 n2 (pc + 1) lv (.int z :: st) μ) : zV χ nL ad sh n1 n2 pc lv (.int y :: .int x :: st) μ := by
  obtain ⟨p, l, e, R, s, m, args, below, meth, c, g, A, H0, Post, rc, rs⟩ := χ
  obtain ⟨hx, hb, hml, ho, ht, hn, hK, hlk, hret, hH, hA, hfr, hlo, hrc, hrs⟩ := K
  intro H locs ls hP hD hS hl
  exact lv_ior hx hb dg (by rw [hv]; exact kk H locs ls hP hD hS hl)
theorem z_ixorR {χ : zX} {cc : ByteArray} {own : String} {nL d : Nat} {ret : Option FieldType} {ad : Nat → Nat} {sh : List zE} {n1 n2 pc : Nat} {lv : List (Nat × Value)} {st : List Value} {μ : zMem} {x y z : Int32} (K : zOk χ cc own nL d ret) (dg : decode cc pc = .ok (.ixor, 1)) (hv : x ^^^ y = z)
    (kk : zV χ nL ad sh n1 n2 (pc + 1) lv (.int z :: st) μ) : zV χ nL ad sh n1 n2 pc lv (.int y :: .int x :: st) μ := by
  obtain ⟨p, l, e, R, s, m, args, below, meth, c, g, A, H0, Post, rc, rs⟩ := χ
  obtain ⟨hx, hb, hml, ho, ht, hn, hK, hlk, hret, hH, hA, hfr, hlo, hrc, hrs⟩ := K
  intro H locs ls hP hD hS hl
  exact lv_ixor hx hb dg (by rw [hv]; exact kk H locs ls hP hD hS hl)
theorem z_ishlR {χ : zX} {cc : ByteArray} {own : String} {nL d : Nat} {ret : Option FieldType} {ad : Nat → Nat} {sh : List zE} {n1 n2 pc : Nat} {lv : List (Nat × Value)} {st : List Value} {μ : zMem} {x y z : Int32} (K : zOk χ cc own nL d ret) (dg : decode cc pc = .ok (.ishl, 1)) (hv : x <<< (y &&& 31) = z)
    (kk : zV χ nL ad sh n1 n2 (pc + 1) lv (.int z :: st) μ) : zV χ nL ad sh n1 n2 pc lv (.int y :: .int x :: st) μ := by
  obtain ⟨p, l, e, R, s, m, args, below, meth, c, g, A, H0, Post, rc, rs⟩ := χ
  obtain ⟨hx, hb, hml, ho, ht, hn, hK, hlk, hret, hH, hA, hfr, hlo, hrc, hrs⟩ := K
  intro H locs ls hP hD hS hl
  exact lv_ishl hx hb dg (by rw [hv]; exact kk H locs ls hP hD hS hl)
theorem z_ishrR {χ : zX} {cc : ByteArray} {own : String} {nL d : Nat} {ret : Option FieldType} {ad : Nat → Nat} {sh : List zE} {n1 n2 pc : Nat} {lv : List (Nat × Value)} {st : List Value} {μ : zMem} {x y z : Int32} (K : zOk χ cc own nL d ret) (dg : decode cc pc = .ok (.ishr, 1)) (hv : x >>> (y &&& 31) = z)
    (kk : zV χ nL ad sh n1 n2 (pc + 1) lv (.int z :: st) μ) : zV χ nL ad sh n1 n2 pc lv (.int y :: .int x :: st) μ := by
  obtain ⟨p, l, e, R, s, m, args, below, meth, c, g, A, H0, Post, rc, rs⟩ := χ
  obtain ⟨hx, hb, hml, ho, ht, hn, hK, hlk, hret, hH, hA, hfr, hlo, hrc, hrs⟩ := K
  intro H locs ls hP hD hS hl
  exact lv_ishr hx hb dg (by rw [hv]; exact kk H locs ls hP hD hS hl)
theorem z_iushrR {χ : zX} {cc : ByteArray} {own : String} {nL d : Nat} {ret : Option FieldType} {ad : Nat → Nat} {sh : List zE} {n1 n2 pc : Nat} {lv : List (Nat × Value)} {st : List Value} {μ : zMem} {x y z : Int32} (K : zOk χ cc own nL d ret) (dg : decode cc pc = .ok (.iushr, 1)) (hv : (x.toUInt32 >>> (y.toUInt32 &&& Int32.toUInt32 31)).toInt32 = z)
    (kk : zV χ nL ad sh n1 n2 (pc + 1) lv (.int z :: st) μ) : zV χ nL ad sh n1 n2 pc lv (.int y :: .int x :: st) μ := by
  obtain ⟨p, l, e, R, s, m, args, below, meth, c, g, A, H0, Post, rc, rs⟩ := χ
  obtain ⟨hx, hb, hml, ho, ht, hn, hK, hlk, hret, hH, hA, hfr, hlo, hrc, hrs⟩ := K
  intro H locs ls hP hD hS hl
  exact lv_iushr hx hb dg hv (kk H locs ls hP hD hS hl)
theorem zi_ne0 {b : Int} (hb : zR b) (h0 : 0 < b) : ¬ zi b = 0 := fun h => by
  have := congrArg Int32.toInt h
  rw [zi_toInt hb] at this
  have h1 : (0 : Int32).toInt = 0 := rfl
  omega
theorem zl_ne0 {b : Int} (hb : b ≤ 9223372036854775807) (h0 : 0 < b) : ¬ zl b = 0 := fun h => by
  have := congrArg Int64.toInt h
  rw [zl_toInt ⟨by omega, hb⟩] at this
  have h1 : (0 : Int64).toInt = 0 := rfl
  omega
theorem zl_div {a b : Int} (h0 : 0 ≤ a) (ha : a ≤ 9223372036854775807) (h1 : 0 < b) (hb : b ≤ 9223372036854775807) : zl a / zl b = zl (a / b) := by
  have hne : zl b ≠ -1 := fun h => by
    have := congrArg Int64.toInt h
    rw [zl_toInt ⟨by omega, hb⟩] at this
    have h1 : (-1 : Int64).toInt = -1 := rfl
    omega
  have h2 : a / b ≤ a := Int.ediv_le_self _ h0
  have h3 : 0 ≤ a / b := Int.ediv_nonneg h0 (by omega)
  rw [← Int64.toInt_inj, Int64.toInt_div_of_ne_right _ _ hne, zl_toInt ⟨by omega, ha⟩, zl_toInt ⟨by omega, hb⟩, zl_toInt ⟨by omega, by omega⟩, Int.tdiv_eq_ediv_of_nonneg h0]
theorem z_idivT {χ : zX} {cc : ByteArray} {own : String} {nL d : Nat} {ret : Option FieldType} {ad : Nat → Nat} {sh : List zE} {n1 n2 pc : Nat} {lv : List (Nat × Value)} {st : List Value} {μ : zMem} {a b : Int} (K : zOk χ cc own nL d ret) (dg : decode cc pc = .ok (.idiv, 1)) (ha : zR a) (hb0 : 0 < b) (hb1 : b ≤ 2147483647)
    (kk : zV χ nL ad sh n1 n2 (pc + 1) lv (.int (zi (a.tdiv b)) :: st) μ) : zV χ nL ad sh n1 n2 pc lv (.int (zi b) :: .int (zi a) :: st) μ := by
  obtain ⟨p, l, e, R, s, m, args, below, meth, c, g, A, H0, Post, rc, rs⟩ := χ
  obtain ⟨hx, hb, hml, ho, ht, hn, hK, hlk, hret, hH, hA, hfr, hlo, hrc, hrs⟩ := K
  intro H locs ls hP hD hS hl
  exact lv_idiv hx hb dg (zi_ne0 ⟨by omega, hb1⟩ hb0) (by rw [zi_tdiv ha ⟨by omega, hb1⟩ hb0]; exact kk H locs ls hP hD hS hl)
theorem z_idiv {χ : zX} {cc : ByteArray} {own : String} {nL d : Nat} {ret : Option FieldType} {ad : Nat → Nat} {sh : List zE} {n1 n2 pc : Nat} {lv : List (Nat × Value)} {st : List Value} {μ : zMem} {a b : Int} (K : zOk χ cc own nL d ret) (dg : decode cc pc = .ok (.idiv, 1)) (ha : 0 ≤ a ∧ a ≤ 2147483647) (hb0 : 0 < b ∧ b ≤ 2147483647)
    (kk : zV χ nL ad sh n1 n2 (pc + 1) lv (.int (zi (a / b)) :: st) μ) : zV χ nL ad sh n1 n2 pc lv (.int (zi b) :: .int (zi a) :: st) μ := by
  obtain ⟨p, l, e, R, s, m, args, below, meth, c, g, A, H0, Post, rc, rs⟩ := χ
  obtain ⟨hx, hb, hml, ho, ht, hn, hK, hlk, hret, hH, hA, hfr, hlo, hrc, hrs⟩ := K
  intro H locs ls hP hD hS hl
  exact lv_idiv hx hb dg (zi_ne0 ⟨by omega, hb0.2⟩ hb0.1) (by rw [zi_tdiv ⟨by omega, ha.2⟩ ⟨by omega, hb0.2⟩ hb0.1, Int.tdiv_eq_ediv_of_nonneg ha.1]; exact kk H locs ls hP hD hS hl)
theorem z_irem {χ : zX} {cc : ByteArray} {own : String} {nL d : Nat} {ret : Option FieldType} {ad : Nat → Nat} {sh : List zE} {n1 n2 pc : Nat} {lv : List (Nat × Value)} {st : List Value} {μ : zMem} {a b : Int} (K : zOk χ cc own nL d ret) (dg : decode cc pc = .ok (.irem, 1)) (ha : 0 ≤ a ∧ a ≤ 2147483647) (hb0 : 0 < b ∧ b ≤ 2147483647)
    (kk : zV χ nL ad sh n1 n2 (pc + 1) lv (.int (zi (a % b)) :: st) μ) : zV χ nL ad sh n1 n2 pc lv (.int (zi b) :: .int (zi a) :: st) μ := by
  obtain ⟨p, l, e, R, s, m, args, below, meth, c, g, A, H0, Post, rc, rs⟩ := χ
  obtain ⟨hx, hb, hml, ho, ht, hn, hK, hlk, hret, hH, hA, hfr, hlo, hrc, hrs⟩ := K
  intro H locs ls hP hD hS hl
  exact lv_irem hx hb dg (zi_ne0 ⟨by omega, hb0.2⟩ hb0.1) (by rw [zi_tdiv ⟨by omega, ha.2⟩ ⟨by omega, hb0.2⟩ hb0.1, Int.tdiv_eq_ediv_of_nonneg ha.1, zi_mul, zi_sub, Int.mul_comm, ← Int.emod_def]; exact kk H locs ls hP hD hS hl)
theorem z_ldiv {χ : zX} {cc : ByteArray} {own : String} {nL d : Nat} {ret : Option FieldType} {ad : Nat → Nat} {sh : List zE} {n1 n2 pc : Nat} {lv : List (Nat × Value)} {st : List Value} {μ : zMem} {a b : Int} (K : zOk χ cc own nL d ret) (dg : decode cc pc = .ok (.ldiv, 1)) (ha : 0 ≤ a ∧ a ≤ 9223372036854775807) (hb0 : 0 < b ∧ b ≤ 9223372036854775807)
    (kk : zV χ nL ad sh n1 n2 (pc + 1) lv (.long (zl (a / b)) :: st) μ) : zV χ nL ad sh n1 n2 pc lv (.long (zl b) :: .long (zl a) :: st) μ := by
  obtain ⟨p, l, e, R, s, m, args, below, meth, c, g, A, H0, Post, rc, rs⟩ := χ
  obtain ⟨hx, hb, hml, ho, ht, hn, hK, hlk, hret, hH, hA, hfr, hlo, hrc, hrs⟩ := K
  intro H locs ls hP hD hS hl
  exact lv_ldiv hx hb dg (zl_ne0 hb0.2 hb0.1) (by rw [zl_div ha.1 ha.2 hb0.1 hb0.2]; exact kk H locs ls hP hD hS hl)
theorem z_lrem {χ : zX} {cc : ByteArray} {own : String} {nL d : Nat} {ret : Option FieldType} {ad : Nat → Nat} {sh : List zE} {n1 n2 pc : Nat} {lv : List (Nat × Value)} {st : List Value} {μ : zMem} {a b : Int} (K : zOk χ cc own nL d ret) (dg : decode cc pc = .ok (.lrem, 1)) (ha : 0 ≤ a ∧ a ≤ 9223372036854775807) (hb0 : 0 < b ∧ b ≤ 9223372036854775807)
    (kk : zV χ nL ad sh n1 n2 (pc + 1) lv (.long (zl (a % b)) :: st) μ) : zV χ nL ad sh n1 n2 pc lv (.long (zl b) :: .long (zl a) :: st) μ := by
  obtain ⟨p, l, e, R, s, m, args, below, meth, c, g, A, H0, Post, rc, rs⟩ := χ
  obtain ⟨hx, hb, hml, ho, ht, hn, hK, hlk, hret, hH, hA, hfr, hlo, hrc, hrs⟩ := K
  intro H locs ls hP hD hS hl
  exact lv_lrem hx hb dg (zl_ne0 hb0.2 hb0.1) (by rw [zl_div ha.1 ha.2 hb0.1 hb0.2, zl_mul, zl_sub, Int.mul_comm, ← Int.emod_def]; exact kk H locs ls hP hD hS hl)
theorem z_lushrR {χ : zX} {cc : ByteArray} {own : String} {nL d : Nat} {ret : Option FieldType} {ad : Nat → Nat} {sh : List zE} {n1 n2 pc : Nat} {lv : List (Nat × Value)} {st : List Value} {μ : zMem} {x z : Int64} {y : Int32} (K : zOk χ cc own nL d ret) (dg : decode cc pc = .ok (.lushr, 1)) (hv : (x.toUInt64 >>> (y.toInt64.toUInt64 &&& Int64.toUInt64 63)).toInt64 = z)
    (kk : zV χ nL ad sh n1 n2 (pc + 1) lv (.long z :: st) μ) : zV χ nL ad sh n1 n2 pc lv (.int y :: .long x :: st) μ := by
  obtain ⟨p, l, e, R, s, m, args, below, meth, c, g, A, H0, Post, rc, rs⟩ := χ
  obtain ⟨hx, hb, hml, ho, ht, hn, hK, hlk, hret, hH, hA, hfr, hlo, hrc, hrs⟩ := K
  intro H locs ls hP hD hS hl
  exact lv_lushr hx hb dg hv (kk H locs ls hP hD hS hl)
theorem z_i2l {χ : zX} {cc : ByteArray} {own : String} {nL d : Nat} {ret : Option FieldType} {ad : Nat → Nat} {sh : List zE} {n1 n2 pc : Nat} {lv : List (Nat × Value)} {st : List Value} {μ : zMem} {a : Int} (K : zOk χ cc own nL d ret) (dg : decode cc pc = .ok (.i2l, 1)) (ha : zR a)
    (kk : zV χ nL ad sh n1 n2 (pc + 1) lv (.long (zl a) :: st) μ) : zV χ nL ad sh n1 n2 pc lv (.int (zi a) :: st) μ := by
  obtain ⟨p, l, e, R, s, m, args, below, meth, c, g, A, H0, Post, rc, rs⟩ := χ
  obtain ⟨hx, hb, hml, ho, ht, hn, hK, hlk, hret, hH, hA, hfr, hlo, hrc, hrs⟩ := K
  intro H locs ls hP hD hS hl
  exact lv_i2l hx hb dg (zi_l ha) (kk H locs ls hP hD hS hl)
theorem z_l2i {χ : zX} {cc : ByteArray} {own : String} {nL d : Nat} {ret : Option FieldType} {ad : Nat → Nat} {sh : List zE} {n1 n2 pc : Nat} {lv : List (Nat × Value)} {st : List Value} {μ : zMem} {a : Int} (K : zOk χ cc own nL d ret) (dg : decode cc pc = .ok (.l2i, 1)) 
    (kk : zV χ nL ad sh n1 n2 (pc + 1) lv (.int (zi a) :: st) μ) : zV χ nL ad sh n1 n2 pc lv (.long (zl a) :: st) μ := by
  obtain ⟨p, l, e, R, s, m, args, below, meth, c, g, A, H0, Post, rc, rs⟩ := χ
  obtain ⟨hx, hb, hml, ho, ht, hn, hK, hlk, hret, hH, hA, hfr, hlo, hrc, hrs⟩ := K
  intro H locs ls hP hD hS hl
  exact lv_l2i hx hb dg (zl_i a) (kk H locs ls hP hD hS hl)
def zc (a b : Int) : Int := if b < a then 1 else if a = b then 0 else -1
abbrev zR8 (a : Int) : Prop := -9223372036854775808 ≤ a ∧ a ≤ 9223372036854775807
theorem zc_cmp {a b : Int} (ha : zR8 a) (hb : zR8 b) : lg_cmp (zl a) (zl b) = zi (zc a b) := by
  unfold lg_cmp zc
  simp only [gt_iff_lt, Int64.lt_iff_toInt_lt, ← Int64.toInt_inj, zl_toInt ha, zl_toInt hb]
  repeat' split
  all_goals rfl
theorem zc_lt (a b : Int) : zc a b < 0 ↔ a < b := by unfold zc; repeat' split <;> omega
theorem zc_gt (a b : Int) : 0 < zc a b ↔ b < a := by unfold zc; repeat' split <;> omega
theorem zc_rg (a b : Int) : zR (zc a b) := by unfold zc zR; repeat' split <;> omega
theorem z_lcmp {χ : zX} {cc : ByteArray} {own : String} {nL d : Nat} {ret : Option FieldType} {ad : Nat → Nat} {sh : List zE} {n1 n2 pc : Nat} {lv : List (Nat × Value)} {st : List Value} {μ : zMem} {a b : Int} (K : zOk χ cc own nL d ret) (dg : decode cc pc = .ok (.lcmp, 1)) (ha : zR8 a) (hb8 : zR8 b)
    (kk : zV χ nL ad sh n1 n2 (pc + 1) lv (.int (zi (zc a b)) :: st) μ) : zV χ nL ad sh n1 n2 pc lv (.long (zl b) :: .long (zl a) :: st) μ := by
  obtain ⟨p, l, e, R, s, m, args, below, meth, c, g, A, H0, Post, rc, rs⟩ := χ
  obtain ⟨hx, hb, hml, ho, ht, hn, hK, hlk, hret, hH, hA, hfr, hlo, hrc, hrs⟩ := K
  intro H locs ls hP hD hS hl
  exact W.lcmp hx hb dg (by rw [zc_cmp ha hb8]; exact kk H locs ls hP hD hS hl)
theorem z_dup {χ : zX} {cc : ByteArray} {own : String} {nL d : Nat} {ret : Option FieldType} {ad : Nat → Nat} {sh : List zE} {n1 n2 pc : Nat} {lv : List (Nat × Value)} {st : List Value} {μ : zMem} {v : Value} (K : zOk χ cc own nL d ret) (dg : decode cc pc = .ok (.dup, 1)) (hv : v.category = 1)
    (kk : zV χ nL ad sh n1 n2 (pc + 1) lv (v :: v :: st) μ) : zV χ nL ad sh n1 n2 pc lv (v :: st) μ := by
  obtain ⟨p, l, e, R, s, m, args, below, meth, c, g, A, H0, Post, rc, rs⟩ := χ
  obtain ⟨hx, hb, hml, ho, ht, hn, hK, hlk, hret, hH, hA, hfr, hlo, hrc, hrs⟩ := K
  intro H locs ls hP hD hS hl
  exact lv_dup hx hb dg hv (kk H locs ls hP hD hS hl)
theorem z_pop {χ : zX} {cc : ByteArray} {own : String} {nL d : Nat} {ret : Option FieldType} {ad : Nat → Nat} {sh : List zE} {n1 n2 pc : Nat} {lv : List (Nat × Value)} {st : List Value} {μ : zMem} {v : Value} (K : zOk χ cc own nL d ret) (dg : decode cc pc = .ok (.pop, 1)) (hv : v.category = 1)
    (kk : zV χ nL ad sh n1 n2 (pc + 1) lv st μ) : zV χ nL ad sh n1 n2 pc lv (v :: st) μ := by
  obtain ⟨p, l, e, R, s, m, args, below, meth, c, g, A, H0, Post, rc, rs⟩ := χ
  obtain ⟨hx, hb, hml, ho, ht, hn, hK, hlk, hret, hH, hA, hfr, hlo, hrc, hrs⟩ := K
  intro H locs ls hP hD hS hl
  exact lv_pop hx hb dg hv (kk H locs ls hP hD hS hl)
theorem z_dup2 {χ : zX} {cc : ByteArray} {own : String} {nL d : Nat} {ret : Option FieldType} {ad : Nat → Nat} {sh : List zE} {n1 n2 pc : Nat} {lv : List (Nat × Value)} {st : List Value} {μ : zMem} {v u : Value} (K : zOk χ cc own nL d ret) (dg : decode cc pc = .ok (.dup2, 1)) (hv : v.category = 1) (hu : u.category = 1)
    (kk : zV χ nL ad sh n1 n2 (pc + 1) lv (v :: u :: v :: u :: st) μ) : zV χ nL ad sh n1 n2 pc lv (v :: u :: st) μ := by
  obtain ⟨p, l, e, R, s, m, args, below, meth, c, g, A, H0, Post, rc, rs⟩ := χ
  obtain ⟨hx, hb, hml, ho, ht, hn, hK, hlk, hret, hH, hA, hfr, hlo, hrc, hrs⟩ := K
  intro H locs ls hP hD hS hl
  exact lv_dup2_11 hx hb dg hv hu (kk H locs ls hP hD hS hl)
theorem z_goto {χ : zX} {cc : ByteArray} {own : String} {nL d : Nat} {ret : Option FieldType} {ad : Nat → Nat} {sh : List zE} {n1 n2 pc : Nat} {lv : List (Nat × Value)} {st : List Value} {μ : zMem} {off : Int} {tgt : Nat} (K : zOk χ cc own nL d ret) (dg : decode cc pc = .ok (.goto off, 3)) (hg : (pc : Int) + off = (tgt : Int))
    (kk : zV χ nL ad sh n1 n2 tgt lv st μ) : zV χ nL ad sh n1 n2 pc lv st μ := by
  obtain ⟨p, l, e, R, s, m, args, below, meth, c, g, A, H0, Post, rc, rs⟩ := χ
  obtain ⟨hx, hb, hml, ho, ht, hn, hK, hlk, hret, hH, hA, hfr, hlo, hrc, hrs⟩ := K
  intro H locs ls hP hD hS hl
  exact lv_goto hx hb dg hg (kk H locs ls hP hD hS hl)
theorem z_ifeq {χ : zX} {cc : ByteArray} {own : String} {nL d : Nat} {ret : Option FieldType} {ad : Nat → Nat} {sh : List zE} {n1 n2 pc : Nat} {lv : List (Nat × Value)} {st : List Value} {μ : zMem} {a : Int} {off : Int} {tgt : Nat} (K : zOk χ cc own nL d ret) (dg : decode cc pc = .ok (.ifCond .eq off, 3)) (hg : (pc : Int) + off = (tgt : Int)) (ha : zR a)
    (kt : a = 0 → zV χ nL ad sh n1 n2 tgt lv st μ) (kf : ¬ a = 0 → zV χ nL ad sh n1 n2 (pc + 3) lv st μ) : zV χ nL ad sh n1 n2 pc lv (.int (zi a) :: st) μ := by
  obtain ⟨p, l, e, R, s, m, args, below, meth, c, g, A, H0, Post, rc, rs⟩ := χ
  obtain ⟨hx, hb, hml, ho, ht, hn, hK, hlk, hret, hH, hA, hfr, hlo, hrc, hrs⟩ := K
  intro H locs ls hP hD hS hl
  have hz : zR 0 := ⟨by decide, by decide⟩
  have hq := zi_eq ha hz
  rw [← (show (0 : Int32) = zi 0 from rfl)] at hq
  exact lv_if_eq hx hb dg hg (fun h => kt (by have h2 := hq; first | exact hq.mp h | exact fun z => h (hq.mpr z)) H locs ls hP hD hS hl) (fun h => kf (by first | exact hq.mp h | exact fun z => h (hq.mpr z) | (have h2 : ¬ (a = 0) := fun z => h (hq.mpr z); omega)) H locs ls hP hD hS hl)
theorem z_ifne {χ : zX} {cc : ByteArray} {own : String} {nL d : Nat} {ret : Option FieldType} {ad : Nat → Nat} {sh : List zE} {n1 n2 pc : Nat} {lv : List (Nat × Value)} {st : List Value} {μ : zMem} {a : Int} {off : Int} {tgt : Nat} (K : zOk χ cc own nL d ret) (dg : decode cc pc = .ok (.ifCond .ne off, 3)) (hg : (pc : Int) + off = (tgt : Int)) (ha : zR a)
    (kt : ¬ a = 0 → zV χ nL ad sh n1 n2 tgt lv st μ) (kf : a = 0 → zV χ nL ad sh n1 n2 (pc + 3) lv st μ) : zV χ nL ad sh n1 n2 pc lv (.int (zi a) :: st) μ := by
  obtain ⟨p, l, e, R, s, m, args, below, meth, c, g, A, H0, Post, rc, rs⟩ := χ
  obtain ⟨hx, hb, hml, ho, ht, hn, hK, hlk, hret, hH, hA, hfr, hlo, hrc, hrs⟩ := K
  intro H locs ls hP hD hS hl
  have hz : zR 0 := ⟨by decide, by decide⟩
  have hq := zi_eq ha hz
  rw [← (show (0 : Int32) = zi 0 from rfl)] at hq
  exact lv_if_ne hx hb dg hg (fun h => kt (by have h2 := hq; first | exact hq.mp h | exact fun z => h (hq.mpr z)) H locs ls hP hD hS hl) (fun h => kf (by first | exact hq.mp h | exact fun z => h (hq.mpr z) | (have h2 : ¬ (¬ a = 0) := fun z => h (hq.mpr z); omega)) H locs ls hP hD hS hl)
theorem z_iflt {χ : zX} {cc : ByteArray} {own : String} {nL d : Nat} {ret : Option FieldType} {ad : Nat → Nat} {sh : List zE} {n1 n2 pc : Nat} {lv : List (Nat × Value)} {st : List Value} {μ : zMem} {a : Int} {off : Int} {tgt : Nat} (K : zOk χ cc own nL d ret) (dg : decode cc pc = .ok (.ifCond .lt off, 3)) (hg : (pc : Int) + off = (tgt : Int)) (ha : zR a)
    (kt : a < 0 → zV χ nL ad sh n1 n2 tgt lv st μ) (kf : 0 ≤ a → zV χ nL ad sh n1 n2 (pc + 3) lv st μ) : zV χ nL ad sh n1 n2 pc lv (.int (zi a) :: st) μ := by
  obtain ⟨p, l, e, R, s, m, args, below, meth, c, g, A, H0, Post, rc, rs⟩ := χ
  obtain ⟨hx, hb, hml, ho, ht, hn, hK, hlk, hret, hH, hA, hfr, hlo, hrc, hrs⟩ := K
  intro H locs ls hP hD hS hl
  have hz : zR 0 := ⟨by decide, by decide⟩
  have hq := zi_lt ha hz
  rw [← (show (0 : Int32) = zi 0 from rfl)] at hq
  exact lv_if_lt hx hb dg hg (fun h => kt (by have h2 := hq; first | exact hq.mp h | exact fun z => h (hq.mpr z)) H locs ls hP hD hS hl) (fun h => kf (by first | exact hq.mp h | exact fun z => h (hq.mpr z) | (have h2 : ¬ (a < 0) := fun z => h (hq.mpr z); omega)) H locs ls hP hD hS hl)
theorem z_ifge {χ : zX} {cc : ByteArray} {own : String} {nL d : Nat} {ret : Option FieldType} {ad : Nat → Nat} {sh : List zE} {n1 n2 pc : Nat} {lv : List (Nat × Value)} {st : List Value} {μ : zMem} {a : Int} {off : Int} {tgt : Nat} (K : zOk χ cc own nL d ret) (dg : decode cc pc = .ok (.ifCond .ge off, 3)) (hg : (pc : Int) + off = (tgt : Int)) (ha : zR a)
    (kt : 0 ≤ a → zV χ nL ad sh n1 n2 tgt lv st μ) (kf : a < 0 → zV χ nL ad sh n1 n2 (pc + 3) lv st μ) : zV χ nL ad sh n1 n2 pc lv (.int (zi a) :: st) μ := by
  obtain ⟨p, l, e, R, s, m, args, below, meth, c, g, A, H0, Post, rc, rs⟩ := χ
  obtain ⟨hx, hb, hml, ho, ht, hn, hK, hlk, hret, hH, hA, hfr, hlo, hrc, hrs⟩ := K
  intro H locs ls hP hD hS hl
  have hz : zR 0 := ⟨by decide, by decide⟩
  have hq := zi_le hz ha
  rw [← (show (0 : Int32) = zi 0 from rfl)] at hq
  exact lv_if_ge hx hb dg hg (fun h => kt (by have h2 := hq; first | exact hq.mp h | exact fun z => h (hq.mpr z)) H locs ls hP hD hS hl) (fun h => kf (by first | exact hq.mp h | exact fun z => h (hq.mpr z) | (have h2 : ¬ (0 ≤ a) := fun z => h (hq.mpr z); omega)) H locs ls hP hD hS hl)
theorem z_ifgt {χ : zX} {cc : ByteArray} {own : String} {nL d : Nat} {ret : Option FieldType} {ad : Nat → Nat} {sh : List zE} {n1 n2 pc : Nat} {lv : List (Nat × Value)} {st : List Value} {μ : zMem} {a : Int} {off : Int} {tgt : Nat} (K : zOk χ cc own nL d ret) (dg : decode cc pc = .ok (.ifCond .gt off, 3)) (hg : (pc : Int) + off = (tgt : Int)) (ha : zR a)
    (kt : 0 < a → zV χ nL ad sh n1 n2 tgt lv st μ) (kf : a ≤ 0 → zV χ nL ad sh n1 n2 (pc + 3) lv st μ) : zV χ nL ad sh n1 n2 pc lv (.int (zi a) :: st) μ := by
  obtain ⟨p, l, e, R, s, m, args, below, meth, c, g, A, H0, Post, rc, rs⟩ := χ
  obtain ⟨hx, hb, hml, ho, ht, hn, hK, hlk, hret, hH, hA, hfr, hlo, hrc, hrs⟩ := K
  intro H locs ls hP hD hS hl
  have hz : zR 0 := ⟨by decide, by decide⟩
  have hq := zi_lt hz ha
  rw [← (show (0 : Int32) = zi 0 from rfl)] at hq
  exact lv_if_gt hx hb dg hg (fun h => kt (by have h2 := hq; first | exact hq.mp h | exact fun z => h (hq.mpr z)) H locs ls hP hD hS hl) (fun h => kf (by first | exact hq.mp h | exact fun z => h (hq.mpr z) | (have h2 : ¬ (0 < a) := fun z => h (hq.mpr z); omega)) H locs ls hP hD hS hl)
theorem z_ifle {χ : zX} {cc : ByteArray} {own : String} {nL d : Nat} {ret : Option FieldType} {ad : Nat → Nat} {sh : List zE} {n1 n2 pc : Nat} {lv : List (Nat × Value)} {st : List Value} {μ : zMem} {a : Int} {off : Int} {tgt : Nat} (K : zOk χ cc own nL d ret) (dg : decode cc pc = .ok (.ifCond .le off, 3)) (hg : (pc : Int) + off = (tgt : Int)) (ha : zR a)
    (kt : a ≤ 0 → zV χ nL ad sh n1 n2 tgt lv st μ) (kf : 0 < a → zV χ nL ad sh n1 n2 (pc + 3) lv st μ) : zV χ nL ad sh n1 n2 pc lv (.int (zi a) :: st) μ := by
  obtain ⟨p, l, e, R, s, m, args, below, meth, c, g, A, H0, Post, rc, rs⟩ := χ
  obtain ⟨hx, hb, hml, ho, ht, hn, hK, hlk, hret, hH, hA, hfr, hlo, hrc, hrs⟩ := K
  intro H locs ls hP hD hS hl
  have hz : zR 0 := ⟨by decide, by decide⟩
  have hq := zi_le ha hz
  rw [← (show (0 : Int32) = zi 0 from rfl)] at hq
  exact lv_if_le hx hb dg hg (fun h => kt (by have h2 := hq; first | exact hq.mp h | exact fun z => h (hq.mpr z)) H locs ls hP hD hS hl) (fun h => kf (by first | exact hq.mp h | exact fun z => h (hq.mpr z) | (have h2 : ¬ (a ≤ 0) := fun z => h (hq.mpr z); omega)) H locs ls hP hD hS hl)
theorem z_icmpeq {χ : zX} {cc : ByteArray} {own : String} {nL d : Nat} {ret : Option FieldType} {ad : Nat → Nat} {sh : List zE} {n1 n2 pc : Nat} {lv : List (Nat × Value)} {st : List Value} {μ : zMem} {a b : Int} {off : Int} {tgt : Nat} (K : zOk χ cc own nL d ret) (dg : decode cc pc = .ok (.if_icmp .eq off, 3)) (hg : (pc : Int) + off = (tgt : Int)) (ha : zR a) (hb2 : zR b)
    (kt : a = b → zV χ nL ad sh n1 n2 tgt lv st μ) (kf : ¬ a = b → zV χ nL ad sh n1 n2 (pc + 3) lv st μ) : zV χ nL ad sh n1 n2 pc lv (.int (zi b) :: .int (zi a) :: st) μ := by
  obtain ⟨p, l, e, R, s, m, args, below, meth, c, g, A, H0, Post, rc, rs⟩ := χ
  obtain ⟨hx, hb, hml, ho, ht, hn, hK, hlk, hret, hH, hA, hfr, hlo, hrc, hrs⟩ := K
  intro H locs ls hP hD hS hl
  have hq := zi_eq ha hb2
  exact lv_icmp_eq hx hb dg hg (fun h => kt (by first | exact hq.mp h | exact fun z => h (hq.mpr z)) H locs ls hP hD hS hl) (fun h => kf (by first | exact hq.mp h | exact fun z => h (hq.mpr z) | (have h2 : ¬ (a = b) := fun z => h (hq.mpr z); omega)) H locs ls hP hD hS hl)
theorem z_icmpne {χ : zX} {cc : ByteArray} {own : String} {nL d : Nat} {ret : Option FieldType} {ad : Nat → Nat} {sh : List zE} {n1 n2 pc : Nat} {lv : List (Nat × Value)} {st : List Value} {μ : zMem} {a b : Int} {off : Int} {tgt : Nat} (K : zOk χ cc own nL d ret) (dg : decode cc pc = .ok (.if_icmp .ne off, 3)) (hg : (pc : Int) + off = (tgt : Int)) (ha : zR a) (hb2 : zR b)
    (kt : ¬ a = b → zV χ nL ad sh n1 n2 tgt lv st μ) (kf : a = b → zV χ nL ad sh n1 n2 (pc + 3) lv st μ) : zV χ nL ad sh n1 n2 pc lv (.int (zi b) :: .int (zi a) :: st) μ := by
  obtain ⟨p, l, e, R, s, m, args, below, meth, c, g, A, H0, Post, rc, rs⟩ := χ
  obtain ⟨hx, hb, hml, ho, ht, hn, hK, hlk, hret, hH, hA, hfr, hlo, hrc, hrs⟩ := K
  intro H locs ls hP hD hS hl
  have hq := zi_eq ha hb2
  exact lv_icmp_ne hx hb dg hg (fun h => kt (by first | exact hq.mp h | exact fun z => h (hq.mpr z)) H locs ls hP hD hS hl) (fun h => kf (by first | exact hq.mp h | exact fun z => h (hq.mpr z) | (have h2 : ¬ (¬ a = b) := fun z => h (hq.mpr z); omega)) H locs ls hP hD hS hl)
theorem z_icmplt {χ : zX} {cc : ByteArray} {own : String} {nL d : Nat} {ret : Option FieldType} {ad : Nat → Nat} {sh : List zE} {n1 n2 pc : Nat} {lv : List (Nat × Value)} {st : List Value} {μ : zMem} {a b : Int} {off : Int} {tgt : Nat} (K : zOk χ cc own nL d ret) (dg : decode cc pc = .ok (.if_icmp .lt off, 3)) (hg : (pc : Int) + off = (tgt : Int)) (ha : zR a) (hb2 : zR b)
    (kt : a < b → zV χ nL ad sh n1 n2 tgt lv st μ) (kf : b ≤ a → zV χ nL ad sh n1 n2 (pc + 3) lv st μ) : zV χ nL ad sh n1 n2 pc lv (.int (zi b) :: .int (zi a) :: st) μ := by
  obtain ⟨p, l, e, R, s, m, args, below, meth, c, g, A, H0, Post, rc, rs⟩ := χ
  obtain ⟨hx, hb, hml, ho, ht, hn, hK, hlk, hret, hH, hA, hfr, hlo, hrc, hrs⟩ := K
  intro H locs ls hP hD hS hl
  have hq := zi_lt ha hb2
  exact lv_icmp_lt hx hb dg hg (fun h => kt (by first | exact hq.mp h | exact fun z => h (hq.mpr z)) H locs ls hP hD hS hl) (fun h => kf (by first | exact hq.mp h | exact fun z => h (hq.mpr z) | (have h2 : ¬ (a < b) := fun z => h (hq.mpr z); omega)) H locs ls hP hD hS hl)
theorem z_icmpge {χ : zX} {cc : ByteArray} {own : String} {nL d : Nat} {ret : Option FieldType} {ad : Nat → Nat} {sh : List zE} {n1 n2 pc : Nat} {lv : List (Nat × Value)} {st : List Value} {μ : zMem} {a b : Int} {off : Int} {tgt : Nat} (K : zOk χ cc own nL d ret) (dg : decode cc pc = .ok (.if_icmp .ge off, 3)) (hg : (pc : Int) + off = (tgt : Int)) (ha : zR a) (hb2 : zR b)
    (kt : b ≤ a → zV χ nL ad sh n1 n2 tgt lv st μ) (kf : a < b → zV χ nL ad sh n1 n2 (pc + 3) lv st μ) : zV χ nL ad sh n1 n2 pc lv (.int (zi b) :: .int (zi a) :: st) μ := by
  obtain ⟨p, l, e, R, s, m, args, below, meth, c, g, A, H0, Post, rc, rs⟩ := χ
  obtain ⟨hx, hb, hml, ho, ht, hn, hK, hlk, hret, hH, hA, hfr, hlo, hrc, hrs⟩ := K
  intro H locs ls hP hD hS hl
  have hq := zi_le hb2 ha
  exact lv_icmp_ge hx hb dg hg (fun h => kt (by first | exact hq.mp h | exact fun z => h (hq.mpr z)) H locs ls hP hD hS hl) (fun h => kf (by first | exact hq.mp h | exact fun z => h (hq.mpr z) | (have h2 : ¬ (b ≤ a) := fun z => h (hq.mpr z); omega)) H locs ls hP hD hS hl)
theorem z_icmpgt {χ : zX} {cc : ByteArray} {own : String} {nL d : Nat} {ret : Option FieldType} {ad : Nat → Nat} {sh : List zE} {n1 n2 pc : Nat} {lv : List (Nat × Value)} {st : List Value} {μ : zMem} {a b : Int} {off : Int} {tgt : Nat} (K : zOk χ cc own nL d ret) (dg : decode cc pc = .ok (.if_icmp .gt off, 3)) (hg : (pc : Int) + off = (tgt : Int)) (ha : zR a) (hb2 : zR b)
    (kt : b < a → zV χ nL ad sh n1 n2 tgt lv st μ) (kf : a ≤ b → zV χ nL ad sh n1 n2 (pc + 3) lv st μ) : zV χ nL ad sh n1 n2 pc lv (.int (zi b) :: .int (zi a) :: st) μ := by
  obtain ⟨p, l, e, R, s, m, args, below, meth, c, g, A, H0, Post, rc, rs⟩ := χ
  obtain ⟨hx, hb, hml, ho, ht, hn, hK, hlk, hret, hH, hA, hfr, hlo, hrc, hrs⟩ := K
  intro H locs ls hP hD hS hl
  have hq := zi_lt hb2 ha
  exact lv_icmp_gt hx hb dg hg (fun h => kt (by first | exact hq.mp h | exact fun z => h (hq.mpr z)) H locs ls hP hD hS hl) (fun h => kf (by first | exact hq.mp h | exact fun z => h (hq.mpr z) | (have h2 : ¬ (b < a) := fun z => h (hq.mpr z); omega)) H locs ls hP hD hS hl)
theorem z_icmple {χ : zX} {cc : ByteArray} {own : String} {nL d : Nat} {ret : Option FieldType} {ad : Nat → Nat} {sh : List zE} {n1 n2 pc : Nat} {lv : List (Nat × Value)} {st : List Value} {μ : zMem} {a b : Int} {off : Int} {tgt : Nat} (K : zOk χ cc own nL d ret) (dg : decode cc pc = .ok (.if_icmp .le off, 3)) (hg : (pc : Int) + off = (tgt : Int)) (ha : zR a) (hb2 : zR b)
    (kt : a ≤ b → zV χ nL ad sh n1 n2 tgt lv st μ) (kf : b < a → zV χ nL ad sh n1 n2 (pc + 3) lv st μ) : zV χ nL ad sh n1 n2 pc lv (.int (zi b) :: .int (zi a) :: st) μ := by
  obtain ⟨p, l, e, R, s, m, args, below, meth, c, g, A, H0, Post, rc, rs⟩ := χ
  obtain ⟨hx, hb, hml, ho, ht, hn, hK, hlk, hret, hH, hA, hfr, hlo, hrc, hrs⟩ := K
  intro H locs ls hP hD hS hl
  have hq := zi_le ha hb2
  exact lv_icmp_le hx hb dg hg (fun h => kt (by first | exact hq.mp h | exact fun z => h (hq.mpr z)) H locs ls hP hD hS hl) (fun h => kf (by first | exact hq.mp h | exact fun z => h (hq.mpr z) | (have h2 : ¬ (a ≤ b) := fun z => h (hq.mpr z); omega)) H locs ls hP hD hS hl)
theorem z_tableOut {χ : zX} {cc : ByteArray} {own : String} {nL d : Nat} {ret : Option FieldType} {ad : Nat → Nat} {sh : List zE} {n1 n2 pc : Nat} {lv : List (Nat × Value)} {st : List Value} {μ : zMem} {dflt lo hi : Int} {offs : Array Int} {len : Nat} {a : Int} {tgt : Nat} (K : zOk χ cc own nL d ret) (dg : decode cc pc = .ok (.tableswitch dflt lo hi offs, len)) (ha : zR a) (h : a < lo ∨ hi < a) (hg : (pc : Int) + dflt = (tgt : Int))
    (kk : zV χ nL ad sh n1 n2 tgt lv st μ) : zV χ nL ad sh n1 n2 pc lv (.int (zi a) :: st) μ := by
  obtain ⟨p, l, e, R, s, m, args, below, meth, c, g, A, H0, Post, rc, rs⟩ := χ
  obtain ⟨hx, hb, hml, ho, ht, hn, hK, hlk, hret, hH, hA, hfr, hlo, hrc, hrs⟩ := K
  intro H locs ls hP hD hS hl
  exact lv_tableOut hx hb dg (by rw [zi_toInt ha]; exact h) hg (kk H locs ls hP hD hS hl)
theorem z_tableIn {χ : zX} {cc : ByteArray} {own : String} {nL d : Nat} {ret : Option FieldType} {ad : Nat → Nat} {sh : List zE} {n1 n2 pc : Nat} {lv : List (Nat × Value)} {st : List Value} {μ : zMem} {dflt lo hi : Int} {offs : Array Int} {len : Nat} {a off : Int} {tgt : Nat} (K : zOk χ cc own nL d ret) (dg : decode cc pc = .ok (.tableswitch dflt lo hi offs, len)) (ha : zR a) (h1 : lo ≤ a) (h2 : a ≤ hi) (h3 : offs[(a - lo).toNat]? = some off) (hg : (pc : Int) + off = (tgt : Int))
    (kk : zV χ nL ad sh n1 n2 tgt lv st μ) : zV χ nL ad sh n1 n2 pc lv (.int (zi a) :: st) μ := by
  obtain ⟨p, l, e, R, s, m, args, below, meth, c, g, A, H0, Post, rc, rs⟩ := χ
  obtain ⟨hx, hb, hml, ho, ht, hn, hK, hlk, hret, hH, hA, hfr, hlo, hrc, hrs⟩ := K
  intro H locs ls hP hD hS hl
  exact lv_tableIn hx hb dg (by rw [zi_toInt ha]; omega) (by rw [zi_toInt ha]; omega) (by rw [zi_toInt ha]; exact h3) hg (kk H locs ls hP hD hS hl)
theorem z_lookup {χ : zX} {cc : ByteArray} {own : String} {nL d : Nat} {ret : Option FieldType} {ad : Nat → Nat} {sh : List zE} {n1 n2 pc : Nat} {lv : List (Nat × Value)} {st : List Value} {μ : zMem} {dflt : Int} {ps : Array (Int × Int)} {len : Nat} {a off : Int} {tgt : Nat} (K : zOk χ cc own nL d ret) (dg : decode cc pc = .ok (.lookupswitch dflt ps, len)) (ha : zR a) (hp : (ps.toList.zip (ps.toList.drop 1)).all (fun (a, next) => a.1 < next.1) = true) (h3 : Op.lookupswitch.offset ps.toList dflt a = off) (hg : (pc : Int) + off = (tgt : Int))
    (kk : zV χ nL ad sh n1 n2 tgt lv st μ) : zV χ nL ad sh n1 n2 pc lv (.int (zi a) :: st) μ := by
  obtain ⟨p, l, e, R, s, m, args, below, meth, c, g, A, H0, Post, rc, rs⟩ := χ
  obtain ⟨hx, hb, hml, ho, ht, hn, hK, hlk, hret, hH, hA, hfr, hlo, hrc, hrs⟩ := K
  intro H locs ls hP hD hS hl
  exact lv_lookup hx hb dg hp (by rw [zi_toInt ha]; exact h3) hg (kk H locs ls hP hD hS hl)
def zFl (own : String) (idx ci j : Nat) : Prop := ∃ (C : String) (T : u_T) (N : Nat), vwCl[ci]? = some (C, T, N) ∧ j < N ∧ (Cond.fieldLink own idx (T j).1 (T j).2.1 (T j).2.2.1 ∈ lw_g ∨ ∃ host, Cond.fieldLinkNest own idx (T j).1 (T j).2.1 (T j).2.2.1 host ∈ lw_n) ∧ ∀ w ∈ u_ws C T N, w ∈ lw_g
def zFp (own : String) (idx ci j : Nat) (t : FieldType) : Prop := ∃ (C : String) (T : u_T) (N : Nat) (ty : Nat → FieldType), vwCl[ci]? = some (C, T, N) ∧ j < N ∧ (Cond.fieldLink own idx (T j).1 (T j).2.1 (T j).2.2.1 ∈ lw_g ∨ ∃ host, Cond.fieldLinkNest own idx (T j).1 (T j).2.1 (T j).2.2.1 host ∈ lw_n) ∧ (∀ w ∈ u_ws C T N, w ∈ lw_g) ∧ (∀ k, k < N → parseFieldDescriptor (T k).2.2.1 = some (ty k)) ∧ (∀ a, a < N → ∀ b, b < N → a ≠ b → (T a).2.1 ≠ (T b).2.1) ∧ (T j).2.2.2 = false ∧ parseFieldDescriptor (T j).2.2.1 = some t
theorem zfs_set {ad : Nat → Nat} {fs : List zF} {j : Nat} {t : zF} (hf : fs[j]? = some t) (f : Nat → Int) (z : Int) : (fs.mapIdx (fun i t => zfv ad t (f i))).set j (zfv ad t z) = fs.mapIdx (fun i t => zfv ad t (zu1 f j z i)) := by
  apply List.ext_getElem?
  intro i
  obtain ⟨hl, he⟩ := List.getElem?_eq_some_iff.mp hf
  rw [List.getElem?_set]
  by_cases hi : j = i
  · subst hi
    simp [List.getElem?_mapIdx, hl, zu1, he]
  · simp [hi, List.getElem?_mapIdx, zu1, Ne.symm hi]
theorem z_get {χ : zX} {cc : ByteArray} {own : String} {nL d : Nat} {ret : Option FieldType} {ad : Nat → Nat} {sh : List zE} {n1 n2 pc : Nat} {lv : List (Nat × Value)} {st : List Value} {μ : zMem} {idx ci j k : Nat} {fs : List zF} {t : zF} {v : Value} (K : zOk χ cc own nL d ret) (dg : decode cc pc = .ok (.getfield idx, 3)) (fl : zFl own idx ci j) (hs : sh[k]? = some (.inr (ci, fs))) (hf : fs[j]? = some t) (hv : zfv ad t (μ k j) = v)
    (kk : zV χ nL ad sh n1 n2 (pc + 3) lv (v :: st) μ) : zV χ nL ad sh n1 n2 pc lv (.ref (ad k) :: st) μ := by
  obtain ⟨p, l, e, R, s, m, args, below, meth, c, g, A, H0, Post, rc, rs⟩ := χ
  obtain ⟨hx, hb, hml, ho, ht, hn, hK, hlk, hret, hH, hA, hfr, hlo, hrc, hrs⟩ := K
  intro H locs ls hP hD hS hl
  obtain ⟨C, T, N, hc, hj, hlk2, hws⟩ := fl
  have he : (zw g ad sh μ)[k]? = some (ad k, .inr (ci, fs.mapIdx (fun i t => zfv ad t (μ k i)))) := zw_at hs
  have hv2 : (fs.mapIdx (fun i t => zfv ad t (μ k i)))[j]? = some v := by rw [List.getElem?_mapIdx, hf, ← hv]; rfl
  rcases hlk2 with h | ⟨host, h⟩
  · exact va_get hx hb ht hws ho hK hP k he hc j hj (ht _ h) (fun x h => h) hv2 dg (kk H locs ls hP hD hS hl)
  · exact va_getN hx hb ht hws ho hK hP k he hc j hj (va_Nw.use rfl (hn _ h)) (fun x h => h) hv2 dg (kk H locs ls hP hD hS hl)
theorem z_puti {χ : zX} {cc : ByteArray} {own : String} {nL d : Nat} {ret : Option FieldType} {ad : Nat → Nat} {sh : List zE} {n1 n2 pc : Nat} {lv : List (Nat × Value)} {st : List Value} {μ : zMem} {idx ci j k : Nat} {fs : List zF} {z : Int} (K : zOk χ cc own nL d ret) (dg : decode cc pc = .ok (.putfield idx, 3)) (fl : zFp own idx ci j .int) (hs : sh[k]? = some (.inr (ci, fs))) (hf : fs[j]? = some (.inl 0))
    (kk : zV χ nL ad sh n1 n2 (pc + 3) lv st (zup μ k (zu1 (μ k) j z))) : zV χ nL ad sh n1 n2 pc lv (.int (zi z) :: .ref (ad k) :: st) μ := by
  obtain ⟨p, l, e, R, s, m, args, below, meth, c, g, A, H0, Post, rc, rs⟩ := χ
  obtain ⟨hx, hb, hml, ho, ht, hn, hK, hlk, hret, hH, hA, hfr, hlo, hrc, hrs⟩ := K
  intro H locs ls hP hD hS hl
  obtain ⟨C, T, N, ty, hc, hj, hlk2, hws, hty, hnm, hfin, hd⟩ := fl
  have he : (zw g ad sh μ)[k]? = some (ad k, .inr (ci, fs.mapIdx (fun i t => zfv ad t (μ k i)))) := zw_at hs
  have e2 : (zw g ad sh μ).set k (ad k, .inr (ci, (fs.mapIdx (fun i t => zfv ad t (μ k i))).set j (.int (zi z)))) = zw g ad sh (zup μ k (zu1 (μ k) j z)) := by
    rw [← zw_set hs]
    exact congrArg (fun q => (zw g ad sh μ).set k (ad k, .inr (ci, q))) (zfs_set hf (μ k) z)
  have hl2 : j < (fs.mapIdx (fun i t => zfv ad t (μ k i))).length := by rw [List.length_mapIdx]; exact (List.getElem?_eq_some_iff.mp hf).1
  rcases hlk2 with h | ⟨host, h⟩
  · exact va_put hx hb ht hws ty hty hnm ho hK hP hD hS k he hc j hj (ht _ h) (fun x h => h) hfin hd rfl rfl hl2 dg (fun H1 locs1 a1 a2 a3 => kk H1 locs1 ls (e2 ▸ a1) (e2 ▸ a2) a3 hl)
  · exact va_putN hx hb ht hws ty hty hnm ho hK hP hD hS k he hc j hj (va_Nw.use rfl (hn _ h)) (fun x h => h) hfin hd rfl rfl hl2 dg (fun H1 locs1 a1 a2 a3 => kk H1 locs1 ls (e2 ▸ a1) (e2 ▸ a2) a3 hl)
theorem z_putl {χ : zX} {cc : ByteArray} {own : String} {nL d : Nat} {ret : Option FieldType} {ad : Nat → Nat} {sh : List zE} {n1 n2 pc : Nat} {lv : List (Nat × Value)} {st : List Value} {μ : zMem} {idx ci j k : Nat} {fs : List zF} {z : Int} (K : zOk χ cc own nL d ret) (dg : decode cc pc = .ok (.putfield idx, 3)) (fl : zFp own idx ci j .long) (hs : sh[k]? = some (.inr (ci, fs))) (hf : fs[j]? = some (.inl 1))
    (kk : zV χ nL ad sh n1 n2 (pc + 3) lv st (zup μ k (zu1 (μ k) j z))) : zV χ nL ad sh n1 n2 pc lv (.long (zl z) :: .ref (ad k) :: st) μ := by
  obtain ⟨p, l, e, R, s, m, args, below, meth, c, g, A, H0, Post, rc, rs⟩ := χ
  obtain ⟨hx, hb, hml, ho, ht, hn, hK, hlk, hret, hH, hA, hfr, hlo, hrc, hrs⟩ := K
  intro H locs ls hP hD hS hl
  obtain ⟨C, T, N, ty, hc, hj, hlk2, hws, hty, hnm, hfin, hd⟩ := fl
  have he : (zw g ad sh μ)[k]? = some (ad k, .inr (ci, fs.mapIdx (fun i t => zfv ad t (μ k i)))) := zw_at hs
  have e2 : (zw g ad sh μ).set k (ad k, .inr (ci, (fs.mapIdx (fun i t => zfv ad t (μ k i))).set j (.long (zl z)))) = zw g ad sh (zup μ k (zu1 (μ k) j z)) := by
    rw [← zw_set hs]
    exact congrArg (fun q => (zw g ad sh μ).set k (ad k, .inr (ci, q))) (zfs_set hf (μ k) z)
  have hl2 : j < (fs.mapIdx (fun i t => zfv ad t (μ k i))).length := by rw [List.length_mapIdx]; exact (List.getElem?_eq_some_iff.mp hf).1
  rcases hlk2 with h | ⟨host, h⟩
  · exact va_put hx hb ht hws ty hty hnm ho hK hP hD hS k he hc j hj (ht _ h) (fun x h => h) hfin hd rfl rfl hl2 dg (fun H1 locs1 a1 a2 a3 => kk H1 locs1 ls (e2 ▸ a1) (e2 ▸ a2) a3 hl)
  · exact va_putN hx hb ht hws ty hty hnm ho hK hP hD hS k he hc j hj (va_Nw.use rfl (hn _ h)) (fun x h => h) hfin hd rfl rfl hl2 dg (fun H1 locs1 a1 a2 a3 => kk H1 locs1 ls (e2 ▸ a1) (e2 ▸ a2) a3 hl)
theorem zu1_upd (f : Nat → Int) (j : Nat) (z : Int) : upd (fun i => zi (f i)) j (zi z) = fun i => zi (zu1 f j z i) := by
  funext q
  by_cases h : q = j
  · subst h; simp [upd, zu1]
  · simp [upd, zu1, h]
theorem z_iald {χ : zX} {cc : ByteArray} {own : String} {nL d : Nat} {ret : Option FieldType} {ad : Nat → Nat} {sh : List zE} {n1 n2 pc : Nat} {lv : List (Nat × Value)} {st : List Value} {μ : zMem} {k n : Nat} {i v : Int} (K : zOk χ cc own nL d ret) (dg : decode cc pc = .ok (.iaload, 1)) (j : Nat) (hs : sh[k]? = some (.inl (false, n))) (hn0 : n ≤ 100000) (hj : i = (j : Int)) (h1 : j < n) (hv : μ k j = v)
    (kk : zV χ nL ad sh n1 n2 (pc + 1) lv (.int (zi v) :: st) μ) : zV χ nL ad sh n1 n2 pc lv (.int (zi i) :: .ref (ad k) :: st) μ := by
  obtain ⟨p, l, e, R, s, m, args, below, meth, c, g, A, H0, Post, rc, rs⟩ := χ
  obtain ⟨hx, hb, hml, ho, ht, hn, hK, hlk, hret, hH, hA, hfr, hlo, hrc, hrs⟩ := K
  intro H locs ls hP hD hS hl
  have he : (zw g ad sh μ)[k]? = some (ad k, .inl (g.2.1, n, .inl (fun j => zi (μ k j)))) := zw_at hs
  subst hv
  refine va_iald hx hb hK hP k 0 he rfl (zi_in hj h1 hn0) dg ?_
  rw [zi_clamp hj (by omega)]
  exact kk H locs ls hP hD hS hl
theorem z_zald {χ : zX} {cc : ByteArray} {own : String} {nL d : Nat} {ret : Option FieldType} {ad : Nat → Nat} {sh : List zE} {n1 n2 pc : Nat} {lv : List (Nat × Value)} {st : List Value} {μ : zMem} {k n : Nat} {i v : Int} (K : zOk χ cc own nL d ret) (dg : decode cc pc = .ok (.baload, 1)) (j : Nat) (hs : sh[k]? = some (.inl (true, n))) (hn0 : n ≤ 100000) (hj : i = (j : Int)) (h1 : j < n) (hv : μ k j = v)
    (kk : zV χ nL ad sh n1 n2 (pc + 1) lv (.int (zi v) :: st) μ) : zV χ nL ad sh n1 n2 pc lv (.int (zi i) :: .ref (ad k) :: st) μ := by
  obtain ⟨p, l, e, R, s, m, args, below, meth, c, g, A, H0, Post, rc, rs⟩ := χ
  obtain ⟨hx, hb, hml, ho, ht, hn, hK, hlk, hret, hH, hA, hfr, hlo, hrc, hrs⟩ := K
  intro H locs ls hP hD hS hl
  have he : (zw g ad sh μ)[k]? = some (ad k, .inl (g.2.2, n, .inl (fun j => zi (μ k j)))) := zw_at hs
  subst hv
  refine va_zald hx hb hK hP k 1 he rfl (zi_in hj h1 hn0) dg ?_
  rw [zi_clamp hj (by omega)]
  exact kk H locs ls hP hD hS hl
theorem z_iast {χ : zX} {cc : ByteArray} {own : String} {nL d : Nat} {ret : Option FieldType} {ad : Nat → Nat} {sh : List zE} {n1 n2 pc : Nat} {lv : List (Nat × Value)} {st : List Value} {μ : zMem} {k n : Nat} {i z : Int} (K : zOk χ cc own nL d ret) (dg : decode cc pc = .ok (.iastore, 1)) (j : Nat) (hs : sh[k]? = some (.inl (false, n))) (hn0 : n ≤ 100000) (hj : i = (j : Int)) (h1 : j < n)
    (kk : zV χ nL ad sh n1 n2 (pc + 1) lv st (zup μ k (zu1 (μ k) j z))) : zV χ nL ad sh n1 n2 pc lv (.int (zi z) :: .int (zi i) :: .ref (ad k) :: st) μ := by
  obtain ⟨p, l, e, R, s, m, args, below, meth, c, g, A, H0, Post, rc, rs⟩ := χ
  obtain ⟨hx, hb, hml, ho, ht, hn, hK, hlk, hret, hH, hA, hfr, hlo, hrc, hrs⟩ := K
  intro H locs ls hP hD hS hl
  have he : (zw g ad sh μ)[k]? = some (ad k, .inl (g.2.1, n, .inl (fun j => zi (μ k j)))) := zw_at hs
  have e2 : (zw g ad sh μ).set k (ad k, .inl (g.2.1, n, .inl (upd (fun j => zi (μ k j)) (zi i).toNatClampNeg (zi z)))) = zw g ad sh (zup μ k (zu1 (μ k) j z)) := by
    rw [← zw_set hs, zi_clamp hj (by omega), zu1_upd]
    rfl
  exact va_iast hx hb hK hP hD hS k 0 he rfl (zi_in hj h1 hn0) dg (fun H1 locs1 a1 a2 a3 => kk H1 locs1 ls (e2 ▸ a1) (e2 ▸ a2) a3 hl)
theorem z_zast {χ : zX} {cc : ByteArray} {own : String} {nL d : Nat} {ret : Option FieldType} {ad : Nat → Nat} {sh : List zE} {n1 n2 pc : Nat} {lv : List (Nat × Value)} {st : List Value} {μ : zMem} {k n : Nat} {i z : Int} (K : zOk χ cc own nL d ret) (dg : decode cc pc = .ok (.bastore, 1)) (j : Nat) (hs : sh[k]? = some (.inl (true, n))) (hn0 : n ≤ 100000) (hj : i = (j : Int)) (h1 : j < n) (hz : z = 0 ∨ z = 1)
    (kk : zV χ nL ad sh n1 n2 (pc + 1) lv st (zup μ k (zu1 (μ k) j z))) : zV χ nL ad sh n1 n2 pc lv (.int (zi z) :: .int (zi i) :: .ref (ad k) :: st) μ := by
  obtain ⟨p, l, e, R, s, m, args, below, meth, c, g, A, H0, Post, rc, rs⟩ := χ
  obtain ⟨hx, hb, hml, ho, ht, hn, hK, hlk, hret, hH, hA, hfr, hlo, hrc, hrs⟩ := K
  intro H locs ls hP hD hS hl
  have he : (zw g ad sh μ)[k]? = some (ad k, .inl (g.2.2, n, .inl (fun j => zi (μ k j)))) := zw_at hs
  have hb9 : vp_nar .boolean (zi z) = zi z := by rcases hz with rfl | rfl <;> rfl
  have e2 : (zw g ad sh μ).set k (ad k, .inl (g.2.2, n, .inl (upd (fun j => zi (μ k j)) (zi i).toNatClampNeg (vp_nar .boolean (zi z))))) = zw g ad sh (zup μ k (zu1 (μ k) j z)) := by
    rw [← zw_set hs, zi_clamp hj (by omega), hb9, zu1_upd]
    rfl
  exact va_zast hx hb hK hP hD hS k 1 he rfl (zi_in hj h1 hn0) dg (fun H1 locs1 a1 a2 a3 => kk H1 locs1 ls (e2 ▸ a1) (e2 ▸ a2) a3 hl)
theorem z_iret {χ : zX} {cc : ByteArray} {own : String} {nL d : Nat} {ret : Option FieldType} {ad : Nat → Nat} {sh : List zE} {pc : Nat} {lv : List (Nat × Value)} {st : List Value} {μ : zMem} {x : Int32} {Po : Option Value → zMem → Prop} (K : zOk χ cc own nL d ret) (T : zRet χ ad sh Po) (hR : ret = some .int) (dg : decode cc pc = .ok (.ireturn, 1)) (h : Po (some (.int x)) μ) : zV χ nL ad sh 0 0 pc lv [.int x] μ := by
  obtain ⟨p, l, e, R, s, m, args, below, meth, c, g, A, H0, Post, rc, rs⟩ := χ
  obtain ⟨hx, hb, hml, ho, ht, hn, hK, hlk, hret, hH, hA, hfr, hlo, hrc, hrs⟩ := K
  intro H locs ls hP hD hS hl
  obtain ⟨hr1, hr2, hr3⟩ := T
  subst hr1; subst hr2; subst hH
  exact W.iret hx hb (hret.trans hR) (fun t ht9 hW => ⟨⟨_, ad, sh, μ, rfl, hr3 _ _ h, by rw [ht9]; exact hP, hD⟩, hS.F ht9⟩) hS.2.2 dg hlk
theorem z_zret {χ : zX} {cc : ByteArray} {own : String} {nL d : Nat} {ret : Option FieldType} {ad : Nat → Nat} {sh : List zE} {pc : Nat} {lv : List (Nat × Value)} {st : List Value} {μ : zMem} {z : Int} {Po : Option Value → zMem → Prop} (K : zOk χ cc own nL d ret) (T : zRet χ ad sh Po) (hR : ret = some .boolean) (dg : decode cc pc = .ok (.ireturn, 1)) (hz : z = 0 ∨ z = 1) (h : Po (some (.int (zi z))) μ) : zV χ nL ad sh 0 0 pc lv [.int (zi z)] μ := by
  obtain ⟨p, l, e, R, s, m, args, below, meth, c, g, A, H0, Post, rc, rs⟩ := χ
  obtain ⟨hx, hb, hml, ho, ht, hn, hK, hlk, hret, hH, hA, hfr, hlo, hrc, hrs⟩ := K
  intro H locs ls hP hD hS hl
  obtain ⟨hr1, hr2, hr3⟩ := T
  subst hr1; subst hr2; subst hH
  exact W.zret hx hb (hret.trans hR) (by rcases hz with rfl | rfl <;> rfl) (fun t ht9 hW => ⟨⟨_, ad, sh, μ, rfl, hr3 _ _ h, by rw [ht9]; exact hP, hD⟩, hS.F ht9⟩) hS.2.2 dg hlk
theorem z_lret {χ : zX} {cc : ByteArray} {own : String} {nL d : Nat} {ret : Option FieldType} {ad : Nat → Nat} {sh : List zE} {pc : Nat} {lv : List (Nat × Value)} {st : List Value} {μ : zMem} {x : Int64} {Po : Option Value → zMem → Prop} (K : zOk χ cc own nL d ret) (T : zRet χ ad sh Po) (hR : ret = some .long) (dg : decode cc pc = .ok (.lreturn, 1)) (h : Po (some (.long x)) μ) : zV χ nL ad sh 0 0 pc lv [.long x] μ := by
  obtain ⟨p, l, e, R, s, m, args, below, meth, c, g, A, H0, Post, rc, rs⟩ := χ
  obtain ⟨hx, hb, hml, ho, ht, hn, hK, hlk, hret, hH, hA, hfr, hlo, hrc, hrs⟩ := K
  intro H locs ls hP hD hS hl
  obtain ⟨hr1, hr2, hr3⟩ := T
  subst hr1; subst hr2; subst hH
  exact W.lret hx hb (hret.trans hR) (fun t ht9 hW => ⟨⟨_, ad, sh, μ, rfl, hr3 _ _ h, by rw [ht9]; exact hP, hD⟩, hS.F ht9⟩) hS.2.2 dg hlk
theorem z_vret {χ : zX} {cc : ByteArray} {own : String} {nL d : Nat} {ret : Option FieldType} {ad : Nat → Nat} {sh : List zE} {pc : Nat} {lv : List (Nat × Value)} {st : List Value} {μ : zMem}  {Po : Option Value → zMem → Prop} (K : zOk χ cc own nL d ret) (T : zRet χ ad sh Po) (hR : ret = none) (dg : decode cc pc = .ok (.return_, 1)) (h : Po (none) μ) : zV χ nL ad sh 0 0 pc lv [] μ := by
  obtain ⟨p, l, e, R, s, m, args, below, meth, c, g, A, H0, Post, rc, rs⟩ := χ
  obtain ⟨hx, hb, hml, ho, ht, hn, hK, hlk, hret, hH, hA, hfr, hlo, hrc, hrs⟩ := K
  intro H locs ls hP hD hS hl
  obtain ⟨hr1, hr2, hr3⟩ := T
  subst hr1; subst hr2; subst hH
  exact W.vret hx hb (hret.trans hR) (fun t ht9 hW => ⟨⟨_, ad, sh, μ, rfl, hr3 _ _ h, by rw [ht9]; exact hP, hD⟩, hS.F ht9⟩) hS.2.2 dg hlk
