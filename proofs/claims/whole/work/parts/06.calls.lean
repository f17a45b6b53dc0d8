-- calls
def zCd (y : MethodName) (cc : ByteArray) (maxL : Nat) (ret : Option FieldType) (n : Nat) : Prop := Cond.code y cc maxL ret ∈ lw_g ∧ Cond.initialized y.cls ∈ lw_g ∧ (y.cls ≠ "java/lang/invoke/MethodHandle" ∧ y.cls ≠ "java/lang/invoke/VarHandle" ∧ (parseMethodDescriptor y.desc).map (fun d => d.parameters.length) = some n) ∧ maxL ≤ 17
def zLk (own : String) (idx : Nat) (y : MethodName) : Prop := Cond.methodLink own idx y ∈ lw_g ∨ ∃ host, Cond.methodLinkNest own idx y host ∈ lw_n
def zLv (own : String) (idx : Nat) (y : MethodName) : Prop := Cond.instanceMethod y ∈ lw_g ∧ Cond.selects y.cls y y ∈ lw_g ∧ zLk own idx y
def zLs (own : String) (idx : Nat) (y : MethodName) : Prop := Cond.static y ∈ lw_g ∧ zLk own idx y
section ZC
variable {p : Program} {l : Launch} {e : Env} {R : Room} {s : State} {m : MethodId} {args : Array Value} {below : List Frame} {meth : Method} {c : Code} {H : Heap} {locs : List Loc} {cells slots : Nat} {Q : State → Prop}
theorem z_cont {pc : Nat} {ls : Array Slot} {st0 rest : List Value} {a : Array Value} {A0 A1 : Nat → Prop} {H0 : Heap} {g : zG} {Po : Option Value → (Nat → Nat) → List zE → zMem → Prop} {mc ms : Nat}
    (hr : va_Run p l e R s m args below meth c H locs cells slots mc ms (F0 m pc ls st0) rest (zQ g A1 Po a) A1) (hS : va_S A0 H0 H locs) (hA : ∀ q, A1 q → A0 q)
    (kk : ∀ (v : Option Value) (ad : Nat → Nat) (sh : List zE) (μ : zMem) (H1 : Heap) (locs1 : List Loc), Po v ad sh μ → va_P g.1 vwCl (zw g ad sh μ) H1 → va_D A1 (zw g ad sh μ) → va_S A0 H0 H1 locs1 →
      W p l e R s m args below meth c H1 locs1 (cells + mc) (slots + ms) Q (F0 m (pc + 3) ls (v.toList ++ rest))) : W p l e R s m args below meth c H locs cells slots Q (F0 m pc ls st0) := by
  intro T hT X
  obtain ⟨v, st₀, t, T', L, h0, X', hL, e1, e2, ⟨⟨v', ad, sh, μ, hv, hp, hb, hd⟩, hz, hk⟩, st⟩ := hr T hT X
  cases hv
  rw [h0] at hz hk
  obtain ⟨t2, a1, b1⟩ := kk v ad sh μ T'.heap (locs ++ L) hp (by rw [e1]; exact hb) hd
    ⟨Nat.le_trans hS.1 (by rw [e1]; exact hz), fun q h1 h2 => by rw [e1, hk q (Nat.lt_of_lt_of_le h1 hS.1) (fun z => h2 (hA q z))]; exact hS.2.1 q h1 h2, fun q hq => by
      rcases List.mem_append.mp hq with h | h
      · exact hS.2.2 q h
      · exact hA _ (hL q h)⟩ T' rfl X'
  exact ⟨t2, st t2 a1, b1⟩
end ZC
theorem zA_sub {A : Nat → Prop} {g : zG} {ad : Nat → Nat} {sh : List zE} {μ : zMem} {H0 H : Heap} {locs : List Loc} (hD : va_D A (zw g ad sh μ)) (hS : va_S A H0 H locs) (hA : ∀ q, H0.size ≤ q → A q) : ∀ q, zA ad sh.length H.size q → A q := by
  intro q h
  rcases h with ⟨k, h1, rfl⟩ | h
  · exact zD_at hD h1
  · exact hA q (Nat.le_trans hS.1 h)
theorem zU_of {s U : State} {H : Heap} {g : zG} {ad : Nat → Nat} {sh : List zE} {μ : zMem} {A : Nat → Prop} (hU : U.heap = H) (hW : s.WarmedH U.vm) (hP : va_P g.1 vwCl (zw g ad sh μ) H) (hD : va_D A (zw g ad sh μ)) (hK : va_K g.1 vwCl (zT g) s) (hn : ∀ w ∈ lw_n, va_Nw w s) : zU g ad sh μ U :=
  ⟨by rw [hU]; exact hP, va_K.moved hW.alike hK, hD.weaken (fun _ _ _ _ => trivial), zn_warm hW hn⟩
set_option maxHeartbeats 4000000 in
theorem z_callV {χ : zX} {cc : ByteArray} {own : String} {nL d : Nat} {ret : Option FieldType} {ad : Nat → Nat} {sh : List zE} {n1 n2 pc : Nat} {lv : List (Nat × Value)} {st : List Value} {μ : zMem} (K : zOk χ cc own nL d ret) {l : Launch} {g : zG} (hl1 : χ.2.1 = l) (hg1 : χ.2.2.2.2.2.2.2.2.2.2.1 = g)
    {y : MethodName} {cc' : ByteArray} {maxL' : Nat} {ret' : Option FieldType} {d' idx n kb ci N : Nat} {T : u_T} {fs : List zF} {As rest : List Value} {Po : Option Value → zMem → Prop}
    (C : zCon l g y cc' maxL' ret' d' ad sh (.ref (ad kb) :: As) μ Po) (hd : d' < d) (lk : zLv own idx y) (cd : zCd y cc' maxL' ret' n) (hs : sh[kb]? = some (.inr (ci, fs))) (hc : vwCl[ci]? = some (y.cls, T, N))
    (hn1 : As.length = n) (hst : st = As.reverse ++ .ref (ad kb) :: rest) (hr8 : (rest.map fun v => v.category).sum ≤ 8) (dg : decode cc pc = .ok (.invokevirtual idx, 3)) (h12 : n1 = 0 ∧ n2 = 0)
    (kk : ∀ v μ', Po v μ' → zV χ nL ad sh n1 n2 (pc + 3) lv (v.toList ++ rest) μ') : zV χ nL ad sh n1 n2 pc lv st μ := by
  obtain ⟨p, l, e, R, s, m, args, below, meth, c, g, A, H0, Post, rc, rs⟩ := χ
  obtain ⟨hx, hb, hml, ho, ht, hn, hK, hlk, hret, hH, hA, hfr, hlo, hrc, hrs⟩ := K
  subst hl1; subst hg1; subst hst
  obtain ⟨hn10, hn20⟩ := h12
  subst hn10; subst hn20
  intro H locs ls hP hD hS hl
  obtain ⟨hcd, hini, hdd, hml'⟩ := cd
  obtain ⟨hinst, hsel, hlnk⟩ := lk
  have hR : ({ frames := d', cells := 0, slots := 0, locals := 36 * d' } : Room).frames + 1 ≤ R.frames ∧ 8 + (maxL' + 11) + ({ frames := d', cells := 0, slots := 0, locals := 36 * d' } : Room).locals ≤ R.locals := by
    constructor
    · show d' + 1 ≤ _; omega
    · show 8 + (maxL' + 11) + 36 * d' ≤ _; omega
  have hp : PreV s H y.cls (ad kb) (va_Pc (.ref (ad kb) :: As) (fun U => U.heap.size = H.size ∧ zU g ad sh μ U)) As := ⟨zU_blind, va_recv hK hP hc (zw_at hs), fun U hU hW => ⟨rfl, by rw [hU], zU_of hU hW hP hD hK hn⟩⟩
  have hrun : va_Run p l e R s m args below meth c H locs 0 0 0 0 (F0 m pc ls (As.reverse ++ .ref (ad kb) :: rest)) rest (zQ g (zA ad sh.length H.size) (fun v ad' sh' μ' => ad' = ad ∧ sh' = sh ∧ Po v μ') (Value.ref (ad kb) :: As).toArray) (zA ad sh.length H.size) := by
    rcases hlnk with h | ⟨host, h⟩
    · exact va_runV ⟨hx, hb, hml, ho, ht⟩ (C H.size) ⟨callB_of n ht (zg_good hcd) rfl rfl rfl (ht _ hini) (ht _ h) hdd hR, ht _ hinst, ht _ hsel⟩ hp rfl hn1 hl.1 rfl (lv_room hr8) dg ⟨Nat.zero_le _, Nat.zero_le _⟩
    · exact va_runVN ⟨hx, hb, hml, ho, ht⟩ (C H.size) ⟨va_cnB n ht (zg_good hcd) rfl rfl rfl (hn _ h) (ht _ hini) hdd hR, ht _ hinst, ht _ hsel⟩ hp rfl hn1 hl.1 rfl (lv_room hr8) dg ⟨Nat.zero_le _, Nat.zero_le _⟩
  refine z_cont hrun hS (zA_sub hD hS hA) (fun v ad' sh' μ' H1 locs1 hpo hP1 hD1 hS1 => ?_)
  obtain ⟨rfl, rfl, hpo⟩ := hpo
  exact kk v μ' hpo H1 locs1 ls hP1 (hD1.weaken (fun k q _ h => zA_sub hD hS hA _ h)) hS1 hl
set_option maxHeartbeats 4000000 in
theorem z_callS {χ : zX} {cc : ByteArray} {own : String} {nL d : Nat} {ret : Option FieldType} {ad : Nat → Nat} {sh : List zE} {n1 n2 pc : Nat} {lv : List (Nat × Value)} {st : List Value} {μ : zMem} (K : zOk χ cc own nL d ret) {l : Launch} {g : zG} (hl1 : χ.2.1 = l) (hg1 : χ.2.2.2.2.2.2.2.2.2.2.1 = g)
    {y : MethodName} {cc' : ByteArray} {maxL' : Nat} {ret' : Option FieldType} {d' idx n : Nat} {As rest : List Value} {Po : Option Value → zMem → Prop}
    (C : zCon l g y cc' maxL' ret' d' ad sh As μ Po) (hd : d' < d) (lk : zLs own idx y) (cd : zCd y cc' maxL' ret' n)
    (hn1 : As.length = n) (hst : st = As.reverse ++ rest) (hr8 : (rest.map fun v => v.category).sum ≤ 8) (dg : decode cc pc = .ok (.invokestatic idx, 3)) (h12 : n1 = 0 ∧ n2 = 0)
    (kk : ∀ v μ', Po v μ' → zV χ nL ad sh n1 n2 (pc + 3) lv (v.toList ++ rest) μ') : zV χ nL ad sh n1 n2 pc lv st μ := by
  obtain ⟨p, l, e, R, s, m, args, below, meth, c, g, A, H0, Post, rc, rs⟩ := χ
  obtain ⟨hx, hb, hml, ho, ht, hn, hK, hlk, hret, hH, hA, hfr, hlo, hrc, hrs⟩ := K
  subst hl1; subst hg1; subst hst
  obtain ⟨hn10, hn20⟩ := h12
  subst hn10; subst hn20
  intro H locs ls hP hD hS hl
  obtain ⟨hcd, hini, hdd, hml'⟩ := cd
  obtain ⟨hstt, hlnk⟩ := lk
  have hR : ({ frames := d', cells := 0, slots := 0, locals := 36 * d' } : Room).frames + 1 ≤ R.frames ∧ 8 + (maxL' + 11) + ({ frames := d', cells := 0, slots := 0, locals := 36 * d' } : Room).locals ≤ R.locals := by
    constructor
    · show d' + 1 ≤ _; omega
    · show 8 + (maxL' + 11) + 36 * d' ≤ _; omega
  have hp : PreS s H (va_Pc As (fun U => U.heap.size = H.size ∧ zU g ad sh μ U)) As := ⟨zU_blind, fun U hU hW => ⟨rfl, by rw [hU], zU_of hU hW hP hD hK hn⟩⟩
  have hrun : va_Run p l e R s m args below meth c H locs 0 0 0 0 (F0 m pc ls (As.reverse ++ rest)) rest (zQ g (zA ad sh.length H.size) (fun v ad' sh' μ' => ad' = ad ∧ sh' = sh ∧ Po v μ') As.toArray) (zA ad sh.length H.size) := by
    rcases hlnk with h | ⟨host, h⟩
    · exact va_runS ⟨hx, hb, hml, ho, ht⟩ (C H.size) ⟨callB_of n ht (zg_good hcd) rfl rfl rfl (ht _ hini) (ht _ h) hdd hR, ht _ hstt⟩ hp rfl hn1 hl.1 rfl (lv_room hr8) dg ⟨Nat.zero_le _, Nat.zero_le _⟩
    · exact va_runSN ⟨hx, hb, hml, ho, ht⟩ (C H.size) ⟨va_cnB n ht (zg_good hcd) rfl rfl rfl (hn _ h) (ht _ hini) hdd hR, ht _ hstt, trivial⟩ hp rfl hn1 hl.1 rfl (lv_room hr8) dg ⟨Nat.zero_le _, Nat.zero_le _⟩
  refine z_cont hrun hS (zA_sub hD hS hA) (fun v ad' sh' μ' H1 locs1 hpo hP1 hD1 hS1 => ?_)
  obtain ⟨rfl, rfl, hpo⟩ := hpo
  exact kk v μ' hpo H1 locs1 ls hP1 (hD1.weaken (fun k q _ h => zA_sub hD hS hA _ h)) hS1 hl
-- Math and System
def zcpy (f g : Nat → Int) (sp dp n : Nat) : Nat → Int := fun k => if dp ≤ k ∧ k < dp + n then f (sp + (k - dp)) else g k
theorem zcpy_va (f g : Nat → Int) (sp dp n : Nat) : va_cpy (fun j => zi (f j)) (fun j => zi (g j)) sp dp n = fun j => zi (zcpy f g sp dp n j) := by
  funext k
  unfold va_cpy zcpy
  split <;> rfl
set_option maxHeartbeats 4000000 in
theorem z_copy {χ : zX} {cc : ByteArray} {own : String} {nL d : Nat} {ret : Option FieldType} {ad : Nat → Nat} {sh : List zE} {n1 n2 pc : Nat} {lv : List (Nat × Value)} {st : List Value} {μ : zMem} (K : zOk χ cc own nL d ret)
    {idx k0 k1 m0 m1 : Nat} {sp dp n : Int} (dg : decode cc pc = .ok (.invokestatic idx, 3)) (lk : Cond.methodLink own idx arraycopyName ∈ lw_g ∧ Cond.native arraycopyName ∈ lw_g ∧ Cond.static arraycopyName ∈ lw_g ∧ Cond.initialized "java/lang/System" ∈ lw_g) (hd : 1 ≤ d)
    (hs0 : sh[k0]? = some (.inl (false, m0))) (hs1 : sh[k1]? = some (.inl (false, m1))) (sp' dp' n' : Nat) (e1 : sp = (sp' : Int)) (e2 : dp = (dp' : Int)) (e3 : n = (n' : Int)) (b0 : sp' + n' ≤ m0 ∧ m0 ≤ 100000) (b1 : dp' + n' ≤ m1 ∧ m1 ≤ 100000) (hr8 : (st.map fun v => v.category).sum ≤ 8)
    (kk : zV χ nL ad sh n1 n2 (pc + 3) lv st (zup μ k1 (zcpy (μ k0) (μ k1) sp' dp' n'))) : zV χ nL ad sh n1 n2 pc lv (.int (zi n) :: .int (zi dp) :: .ref (ad k1) :: .int (zi sp) :: .ref (ad k0) :: st) μ := by
  obtain ⟨p, l, e, R, s, m, args, below, meth, c, g, A, H0, Post, rc, rs⟩ := χ
  obtain ⟨hx, hb, hml, ho, ht, hn, hK, hlk, hret, hH, hA, hfr, hlo, hrc, hrs⟩ := K
  intro H locs ls hP hD hS hl
  have he0 : (zw g ad sh μ)[k0]? = some (ad k0, .inl (g.2.1, m0, .inl (fun j => zi (μ k0 j)))) := zw_at hs0
  have he1 : (zw g ad sh μ)[k1]? = some (ad k1, .inl (g.2.1, m1, .inl (fun j => zi (μ k1 j)))) := zw_at hs1
  have f1 : (zi sp).toNatClampNeg = sp' := zi_clamp e1 (by omega)
  have f2 : (zi dp).toNatClampNeg = dp' := zi_clamp e2 (by omega)
  have f3 : (zi n).toNatClampNeg = n' := zi_clamp e3 (by omega)
  have nn : ∀ (z : Int) (j : Nat), z = (j : Int) → j ≤ 100000 → ¬ zi z < 0 := fun z j h h2 => by
    subst h
    rw [zi_nat]
    exact nI_pos (by omega)
  have e9 : (zw g ad sh μ).set k1 (ad k1, .inl (g.2.1, m1, .inl (va_cpy (fun j => zi (μ k0 j)) (fun j => zi (μ k1 j)) (zi sp).toNatClampNeg (zi dp).toNatClampNeg (zi n).toNatClampNeg))) = zw g ad sh (zup μ k1 (zcpy (μ k0) (μ k1) sp' dp' n')) := by
    rw [← zw_set hs1, f1, f2, f3, zcpy_va]
    rfl
  have hw : nativeFrameWords "java/lang/System" "arraycopy" 5 = 7 := by decide
  refine va_copyi hx hb (by rw [hml]; exact hl.1.symm) ho (ht _ lk.1) (ht _ lk.2.1) (ht _ lk.2.2.1) (ht _ lk.2.2.2) hK hP hD hS k0 k1 0 0 he0 he1 rfl rfl rfl (nn _ _ e1 (by omega)) (nn _ _ e2 (by omega)) (nn _ _ e3 (by omega)) (by rw [f1, f3]; omega) (by rw [f2, f3]; omega) (fun _ _ => rfl) (by omega) (by rw [hw]; omega) dg (fun H1 locs1 a1 a2 a3 => kk H1 locs1 ls (e9 ▸ a1) (e9 ▸ a2) a3 hl)
def zLm (own : String) (idx : Nat) (y : MethodName) (cc : ByteArray) (n : Nat) : Prop := Cond.methodLink own idx y ∈ lw_g ∧ Cond.static y ∈ lw_g ∧ Cond.initialized "java/lang/Math" ∈ lw_g ∧ Cond.code y cc n (some .int) ∈ lw_g
theorem z_max {χ : zX} {cc : ByteArray} {own : String} {nL d : Nat} {ret : Option FieldType} {ad : Nat → Nat} {sh : List zE} {pc : Nat} {lv : List (Nat × Value)} {st : List Value} {μ : zMem} (K : zOk χ cc own nL d ret)
    {idx : Nat} {a b : Int} (dg : decode cc pc = .ok (.invokestatic idx, 3)) (lk : zLm own idx Lib.Math.max.name Lib.Math.max.code 2) (hd : 1 ≤ d) (ha : zR a) (hb2 : zR b) (hr8 : (st.map fun v => v.category).sum ≤ 8)
    (kk : zV χ nL ad sh 0 0 (pc + 3) lv (.int (zi (max a b)) :: st) μ) : zV χ nL ad sh 0 0 pc lv (.int (zi b) :: .int (zi a) :: st) μ := by
  obtain ⟨p, l, e, R, s, m, args, below, meth, c, g, A, H0, Post, rc, rs⟩ := χ
  obtain ⟨hx, hb, hml, ho, ht, hn, hK, hlk, hret, hH, hA, hfr, hlo, hrc, hrs⟩ := K
  intro H locs ls hP hD hS hl
  have hq : (if zi a < zi b then zi b else zi a) = zi (max a b) := by
    rw [Int.max_def]
    by_cases h : a < b
    · rw [if_pos ((zi_lt ha hb2).mpr h), if_pos (by omega)]
    · rw [if_neg (fun q => h ((zi_lt ha hb2).mp q))]
      by_cases h2 : a ≤ b
      · rw [if_pos h2, show a = b by omega]
      · rw [if_neg h2]
  exact va_mmax hx hb (by rw [hml]; exact hl.1.symm) ho (ht _ lk.1) (ht _ lk.2.1) (ht _ lk.2.2.1) (ht _ lk.2.2.2) (by omega) (by omega) (Nat.zero_le _) (Nat.zero_le _) dg (by rw [hq]; exact kk H locs ls hP hD hS hl)
theorem z_min {χ : zX} {cc : ByteArray} {own : String} {nL d : Nat} {ret : Option FieldType} {ad : Nat → Nat} {sh : List zE} {pc : Nat} {lv : List (Nat × Value)} {st : List Value} {μ : zMem} (K : zOk χ cc own nL d ret)
    {idx : Nat} {a b : Int} (dg : decode cc pc = .ok (.invokestatic idx, 3)) (lk : zLm own idx Lib.Math.min.name Lib.Math.min.code 2) (hd : 1 ≤ d) (ha : zR a) (hb2 : zR b) (hr8 : (st.map fun v => v.category).sum ≤ 8)
    (kk : zV χ nL ad sh 0 0 (pc + 3) lv (.int (zi (min a b)) :: st) μ) : zV χ nL ad sh 0 0 pc lv (.int (zi b) :: .int (zi a) :: st) μ := by
  obtain ⟨p, l, e, R, s, m, args, below, meth, c, g, A, H0, Post, rc, rs⟩ := χ
  obtain ⟨hx, hb, hml, ho, ht, hn, hK, hlk, hret, hH, hA, hfr, hlo, hrc, hrs⟩ := K
  intro H locs ls hP hD hS hl
  have h1 : min a b = if b < a then b else a := by
    rw [Int.min_def]
    split <;> split <;> omega
  exact va_mmin hx hb (by rw [hml]; exact hl.1.symm) ho (ht _ lk.1) (ht _ lk.2.1) (ht _ lk.2.2.1) (ht _ lk.2.2.2) (by omega) (by omega) (Nat.zero_le _) (Nat.zero_le _) dg (by
    have h2 := kk H locs ls hP hD hS hl
    rw [h1] at h2
    by_cases h : b < a
    · have h3 := (zi_lt hb2 ha).mpr h
      simp only [h, h3, if_true, if_pos] at h2 ⊢
      exact h2
    · have h3 : ¬ zi b < zi a := fun q => h ((zi_lt hb2 ha).mp q)
      simp only [h, h3, if_false, if_neg] at h2 ⊢
      first | exact h2 | (simp only [gt_iff_lt, h3, if_false] ; exact h2))
theorem z_abs {χ : zX} {cc : ByteArray} {own : String} {nL d : Nat} {ret : Option FieldType} {ad : Nat → Nat} {sh : List zE} {pc : Nat} {lv : List (Nat × Value)} {st : List Value} {μ : zMem} (K : zOk χ cc own nL d ret)
    {idx : Nat} {a : Int} (dg : decode cc pc = .ok (.invokestatic idx, 3)) (lk : zLm own idx Lib.Math.abs.name Lib.Math.abs.code 1) (hd : 1 ≤ d) (ha : zR a) (hr8 : (st.map fun v => v.category).sum ≤ 8)
    (kk : zV χ nL ad sh 0 0 (pc + 3) lv (.int (zi (a.natAbs : Int)) :: st) μ) : zV χ nL ad sh 0 0 pc lv (.int (zi a) :: st) μ := by
  obtain ⟨p, l, e, R, s, m, args, below, meth, c, g, A, H0, Post, rc, rs⟩ := χ
  obtain ⟨hx, hb, hml, ho, ht, hn, hK, hlk, hret, hH, hA, hfr, hlo, hrc, hrs⟩ := K
  intro H locs ls hP hD hS hl
  have hz : zR 0 := ⟨by decide, by decide⟩
  have hq : (if 0 ≤ zi a then zi a else 0 - zi a) = zi (a.natAbs : Int) := by
    rw [show (0 : Int32) = zi 0 from rfl]
    by_cases h : 0 ≤ a
    · rw [if_pos ((zi_le hz ha).mpr h)]
      exact congrArg zi (by omega)
    · rw [if_neg (fun q => h ((zi_le hz ha).mp q)), zi_sub]
      exact congrArg zi (by omega)
  exact va_mabs hx hb (by rw [hml]; exact hl.1.symm) ho (ht _ lk.1) (ht _ lk.2.1) (ht _ lk.2.2.1) (ht _ lk.2.2.2) (by omega) (by omega) (Nat.zero_le _) (Nat.zero_le _) dg (by rw [hq]; exact kk H locs ls hP hD hS hl)
