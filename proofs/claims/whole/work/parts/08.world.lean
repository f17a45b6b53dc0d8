-- the world of this claim: 0 PigeonMail, 1 Script, 3 draft, 10 plan, 17 now, 20 Outlook, 25 then, 28 Past, 29 its Shelf, 31 slots, 34 Told, 37 Chance, 39 PigeonMailModel; arrays behind each
def zSH : List zE := [
  .inr (8, [.inr (some 1), .inr (some 10), .inr (some 17), .inr (some 20), .inr (some 28), .inr (some 31), .inr (some 33), .inr (some 34), .inr (some 37), .inl 1]),
  .inr (5, [.inr (some 2), .inl 0, .inr (some 3)]), .inl (false, 48),
  .inr (4, [.inl 0, .inl 0, .inl 0, .inr (some 4), .inr (some 5), .inr (some 6), .inr (some 7), .inr (some 8), .inr (some 9)]), .inl (false, 6), .inl (false, 6), .inl (false, 6), .inl (false, 6), .inl (false, 3), .inl (false, 3),
  .inr (4, [.inl 0, .inl 0, .inl 0, .inr (some 11), .inr (some 12), .inr (some 13), .inr (some 14), .inr (some 15), .inr (some 16)]), .inl (false, 6), .inl (false, 6), .inl (false, 6), .inl (false, 6), .inl (false, 3), .inl (false, 3),
  .inr (1, [.inr (some 10), .inr (some 18), .inr (some 19)]), .inl (false, 23), .inl (false, 3),
  .inr (2, [.inr (some 10), .inr (some 17), .inr (some 25), .inr (some 21), .inr (some 22), .inr (some 23), .inr (some 24), .inl 1]), .inl (false, 4), .inl (false, 8), .inl (false, 9), .inl (false, 9),
  .inr (1, [.inr (some 10), .inr (some 26), .inr (some 27)]), .inl (false, 23), .inl (false, 3),
  .inr (3, [.inr (some 29), .inl 0, .inl 0]), .inr (6, [.inl 0, .inr (some 30)]), .inl (false, 322),
  .inr (6, [.inl 0, .inr (some 32)]), .inl (false, 46), .inl (true, 2),
  .inr (7, [.inr (some 35), .inr (some 36), .inl 0]), .inl (false, 6), .inl (true, 6),
  .inr (0, [.inr (some 38)]), .inl (false, 7),
  .inr (9, [.inl 0, .inr (some 40), .inl 0, .inl 0, .inl 0, .inr (some 41), .inr (some 42), .inl 0, .inr (some 43), .inl 0, .inl 0, .inr (some 44), .inl 0, .inr (some 45), .inr (some 46), .inr (some 47), .inr (some 48), .inl 0, .inr (some 49), .inr (some 50), .inl 0, .inr (some 51), .inr (some 52), .inl 1, .inl 0, .inr (some 53), .inl 0, .inl 0, .inl 0, .inl 0, .inl 0, .inl 0, .inr (some 54), .inr (some 55)]),
  .inl (false, 48), .inl (false, 6), .inl (false, 6), .inl (false, 3), .inl (false, 18), .inl (false, 6), .inl (false, 23), .inl (false, 23), .inl (false, 322), .inl (false, 46), .inl (true, 2), .inl (false, 6), .inl (false, 6), .inl (false, 3), .inl (false, 18), .inl (false, 8)]
theorem zfor {n : Nat} {P : Nat → Prop} (h : ∀ l, l ≤ n → (∀ l', l < l' → l' ≤ n → P l') → P l) : ∀ l, l ≤ n → P l := by
  have key : ∀ k l, l ≤ n → n - l ≤ k → P l := by
    intro k
    induction k with
    | zero => exact fun l hl hk => h l hl (fun l' h1 h2 => absurd h1 (by omega))
    | succ k ih => exact fun l hl hk => h l hl (fun l' h1 h2 => ih l' h2 (by omega))
  exact fun l hl => key n l hl (by omega)
theorem zdown {P : Nat → Prop} (h : ∀ l, (∀ l', l' < l → P l') → P l) : ∀ l, P l := fun l => Nat.strongRecOn l h
def zPi (P : Int → zMem → Prop) : Option Value → zMem → Prop := fun v μ => ∃ r : Int, v = some (.int (zi r)) ∧ P r μ
def zPl (P : Int → zMem → Prop) : Option Value → zMem → Prop := fun v μ => ∃ r : Int, v = some (.long (zl r)) ∧ P r μ
def zPv (P : zMem → Prop) : Option Value → zMem → Prop := fun v μ => v = none ∧ P μ
def zPd (ν : zMem) (X : Int) : Option Value → zMem → Prop := fun v μ => v = some (.int (zi X)) ∧ μ = ν
def zPm (ν : zMem) : Option Value → zMem → Prop := fun v μ => v = none ∧ μ = ν
theorem z_ipick {χ : zX} {nL : Nat} {ad : Nat → Nat} {sh : List zE} {n1 n2 pc : Nat} {lv lv' : List (Nat × Value)} {st : List Value} {μ : zMem} (ks : List Nat) (h : lv_pick lv ks = lv') (kk : zV χ nL ad sh n1 n2 pc lv' st μ) : zV χ nL ad sh n1 n2 pc lv st μ := by
  obtain ⟨p, l, e, R, s, m, args, below, meth, c, g, A, H0, Post, rc, rs⟩ := χ
  intro H locs ls hP hD hS hl
  exact kk H locs ls hP hD hS (lv_sub hl ks h)
section ZR
variable {χ : zX} {cc : ByteArray} {own : String} {nL d : Nat} {ret : Option FieldType} {ad : Nat → Nat} {sh : List zE} {pc : Nat} {lv : List (Nat × Value)} {μ : zMem}
theorem z_ireti {P : Int → zMem → Prop} {r : Int} (K : zOk χ cc own nL d ret) (T : zRet χ ad sh (zPi P)) (hR : ret = some .int) (dg : decode cc pc = .ok (.ireturn, 1)) (h : P r μ) : zV χ nL ad sh 0 0 pc lv [.int (zi r)] μ := z_iret (st := []) K T hR dg ⟨r, rfl, h⟩
theorem z_zreti {P : Int → zMem → Prop} {r : Int} (K : zOk χ cc own nL d ret) (T : zRet χ ad sh (zPi P)) (hR : ret = some .boolean) (dg : decode cc pc = .ok (.ireturn, 1)) (hz : r = 0 ∨ r = 1) (h : P r μ) : zV χ nL ad sh 0 0 pc lv [.int (zi r)] μ := z_zret (st := []) K T hR dg hz ⟨r, rfl, h⟩
theorem z_lreti {P : Int → zMem → Prop} {r : Int} (K : zOk χ cc own nL d ret) (T : zRet χ ad sh (zPl P)) (hR : ret = some .long) (dg : decode cc pc = .ok (.lreturn, 1)) (h : P r μ) : zV χ nL ad sh 0 0 pc lv [.long (zl r)] μ := z_lret (st := []) K T hR dg ⟨r, rfl, h⟩
theorem z_vreti {P : zMem → Prop} (K : zOk χ cc own nL d ret) (T : zRet χ ad sh (zPv P)) (hR : ret = none) (dg : decode cc pc = .ok (.return_, 1)) (h : P μ) : zV χ nL ad sh 0 0 pc lv [] μ := z_vret (st := []) K T hR dg ⟨rfl, h⟩
theorem z_iretd {ν : zMem} {X r : Int} (K : zOk χ cc own nL d ret) (T : zRet χ ad sh (zPd ν X)) (hR : ret = some .int) (dg : decode cc pc = .ok (.ireturn, 1)) (h : r = X) (hm : μ = ν) : zV χ nL ad sh 0 0 pc lv [.int (zi r)] μ := z_iret (st := []) K T hR dg ⟨by rw [h], hm⟩
theorem z_zretd {ν : zMem} {X r : Int} (K : zOk χ cc own nL d ret) (T : zRet χ ad sh (zPd ν X)) (hR : ret = some .boolean) (dg : decode cc pc = .ok (.ireturn, 1)) (hz : r = 0 ∨ r = 1) (h : r = X) (hm : μ = ν) : zV χ nL ad sh 0 0 pc lv [.int (zi r)] μ := z_zret (st := []) K T hR dg hz ⟨by rw [h], hm⟩
theorem z_vretd {ν : zMem} (K : zOk χ cc own nL d ret) (T : zRet χ ad sh (zPm ν)) (hR : ret = none) (dg : decode cc pc = .ok (.return_, 1)) (hm : μ = ν) : zV χ nL ad sh 0 0 pc lv [] μ := z_vret (st := []) K T hR dg ⟨rfl, hm⟩
variable {st : List Value} {l : Launch} {g : zG} {y : MethodName} {cc' : ByteArray} {maxL' : Nat} {ret' : Option FieldType} {d' idx n kb ci N : Nat} {T : u_T} {fs : List zF} {As rest : List Value}
theorem z_callVi {P : Int → zMem → Prop} (K : zOk χ cc own nL d ret) (hl1 : χ.2.1 = l) (hg1 : χ.2.2.2.2.2.2.2.2.2.2.1 = g) (C : zCon l g y cc' maxL' ret' d' ad sh (.ref (ad kb) :: As) μ (zPi P)) (hd : d' < d) (lk : zLv own idx y) (cd : zCd y cc' maxL' ret' n) (hs : sh[kb]? = some (.inr (ci, fs))) (hc : vwCl[ci]? = some (y.cls, T, N))
    (hn1 : As.length = n) (hst : st = As.reverse ++ .ref (ad kb) :: rest) (hr8 : (rest.map fun v => v.category).sum ≤ 8) (dg : decode cc pc = .ok (.invokevirtual idx, 3)) (kk : ∀ r μ', P r μ' → zV χ nL ad sh 0 0 (pc + 3) lv (.int (zi r) :: rest) μ') : zV χ nL ad sh 0 0 pc lv st μ :=
  z_callV K hl1 hg1 C hd lk cd hs hc hn1 hst hr8 dg ⟨rfl, rfl⟩ (fun v μ' h => by obtain ⟨r, rfl, h⟩ := h; exact kk r μ' h)
theorem z_callVv {P : zMem → Prop} (K : zOk χ cc own nL d ret) (hl1 : χ.2.1 = l) (hg1 : χ.2.2.2.2.2.2.2.2.2.2.1 = g) (C : zCon l g y cc' maxL' ret' d' ad sh (.ref (ad kb) :: As) μ (zPv P)) (hd : d' < d) (lk : zLv own idx y) (cd : zCd y cc' maxL' ret' n) (hs : sh[kb]? = some (.inr (ci, fs))) (hc : vwCl[ci]? = some (y.cls, T, N))
    (hn1 : As.length = n) (hst : st = As.reverse ++ .ref (ad kb) :: rest) (hr8 : (rest.map fun v => v.category).sum ≤ 8) (dg : decode cc pc = .ok (.invokevirtual idx, 3)) (kk : ∀ μ', P μ' → zV χ nL ad sh 0 0 (pc + 3) lv rest μ') : zV χ nL ad sh 0 0 pc lv st μ :=
  z_callV K hl1 hg1 C hd lk cd hs hc hn1 hst hr8 dg ⟨rfl, rfl⟩ (fun v μ' h => by obtain ⟨rfl, h⟩ := h; exact kk μ' h)
theorem z_callSi {P : Int → zMem → Prop} (K : zOk χ cc own nL d ret) (hl1 : χ.2.1 = l) (hg1 : χ.2.2.2.2.2.2.2.2.2.2.1 = g) (C : zCon l g y cc' maxL' ret' d' ad sh As μ (zPi P)) (hd : d' < d) (lk : zLs own idx y) (cd : zCd y cc' maxL' ret' n)
    (hn1 : As.length = n) (hst : st = As.reverse ++ rest) (hr8 : (rest.map fun v => v.category).sum ≤ 8) (dg : decode cc pc = .ok (.invokestatic idx, 3)) (kk : ∀ r μ', P r μ' → zV χ nL ad sh 0 0 (pc + 3) lv (.int (zi r) :: rest) μ') : zV χ nL ad sh 0 0 pc lv st μ :=
  z_callS K hl1 hg1 C hd lk cd hn1 hst hr8 dg ⟨rfl, rfl⟩ (fun v μ' h => by obtain ⟨r, rfl, h⟩ := h; exact kk r μ' h)
theorem z_callSl {P : Int → zMem → Prop} (K : zOk χ cc own nL d ret) (hl1 : χ.2.1 = l) (hg1 : χ.2.2.2.2.2.2.2.2.2.2.1 = g) (C : zCon l g y cc' maxL' ret' d' ad sh As μ (zPl P)) (hd : d' < d) (lk : zLs own idx y) (cd : zCd y cc' maxL' ret' n)
    (hn1 : As.length = n) (hst : st = As.reverse ++ rest) (hr8 : (rest.map fun v => v.category).sum ≤ 8) (dg : decode cc pc = .ok (.invokestatic idx, 3)) (kk : ∀ r μ', P r μ' → zV χ nL ad sh 0 0 (pc + 3) lv (.long (zl r) :: rest) μ') : zV χ nL ad sh 0 0 pc lv st μ :=
  z_callS K hl1 hg1 C hd lk cd hn1 hst hr8 dg ⟨rfl, rfl⟩ (fun v μ' h => by obtain ⟨r, rfl, h⟩ := h; exact kk r μ' h)
theorem z_callSv {P : zMem → Prop} (K : zOk χ cc own nL d ret) (hl1 : χ.2.1 = l) (hg1 : χ.2.2.2.2.2.2.2.2.2.2.1 = g) (C : zCon l g y cc' maxL' ret' d' ad sh As μ (zPv P)) (hd : d' < d) (lk : zLs own idx y) (cd : zCd y cc' maxL' ret' n)
    (hn1 : As.length = n) (hst : st = As.reverse ++ rest) (hr8 : (rest.map fun v => v.category).sum ≤ 8) (dg : decode cc pc = .ok (.invokestatic idx, 3)) (kk : ∀ μ', P μ' → zV χ nL ad sh 0 0 (pc + 3) lv rest μ') : zV χ nL ad sh 0 0 pc lv st μ :=
  z_callS K hl1 hg1 C hd lk cd hn1 hst hr8 dg ⟨rfl, rfl⟩ (fun v μ' h => by obtain ⟨rfl, h⟩ := h; exact kk μ' h)
theorem z_callVd {ν : zMem} {X : Int} (K : zOk χ cc own nL d ret) (hl1 : χ.2.1 = l) (hg1 : χ.2.2.2.2.2.2.2.2.2.2.1 = g) (C : zCon l g y cc' maxL' ret' d' ad sh (.ref (ad kb) :: As) μ (zPd ν X)) (hd : d' < d) (lk : zLv own idx y) (cd : zCd y cc' maxL' ret' n) (hs : sh[kb]? = some (.inr (ci, fs))) (hc : vwCl[ci]? = some (y.cls, T, N))
    (hn1 : As.length = n) (hst : st = As.reverse ++ .ref (ad kb) :: rest) (hr8 : (rest.map fun v => v.category).sum ≤ 8) (dg : decode cc pc = .ok (.invokevirtual idx, 3)) (kk : zV χ nL ad sh 0 0 (pc + 3) lv (.int (zi X) :: rest) ν) : zV χ nL ad sh 0 0 pc lv st μ :=
  z_callV K hl1 hg1 C hd lk cd hs hc hn1 hst hr8 dg ⟨rfl, rfl⟩ (fun v μ' h => by obtain ⟨h1, h2⟩ := h; rw [h1, h2]; exact kk)
theorem z_callVm {ν : zMem} (K : zOk χ cc own nL d ret) (hl1 : χ.2.1 = l) (hg1 : χ.2.2.2.2.2.2.2.2.2.2.1 = g) (C : zCon l g y cc' maxL' ret' d' ad sh (.ref (ad kb) :: As) μ (zPm ν)) (hd : d' < d) (lk : zLv own idx y) (cd : zCd y cc' maxL' ret' n) (hs : sh[kb]? = some (.inr (ci, fs))) (hc : vwCl[ci]? = some (y.cls, T, N))
    (hn1 : As.length = n) (hst : st = As.reverse ++ .ref (ad kb) :: rest) (hr8 : (rest.map fun v => v.category).sum ≤ 8) (dg : decode cc pc = .ok (.invokevirtual idx, 3)) (kk : zV χ nL ad sh 0 0 (pc + 3) lv rest ν) : zV χ nL ad sh 0 0 pc lv st μ :=
  z_callV K hl1 hg1 C hd lk cd hs hc hn1 hst hr8 dg ⟨rfl, rfl⟩ (fun v μ' h => by obtain ⟨h1, h2⟩ := h; rw [h1, h2]; exact kk)
theorem z_callSd {ν : zMem} {X : Int} (K : zOk χ cc own nL d ret) (hl1 : χ.2.1 = l) (hg1 : χ.2.2.2.2.2.2.2.2.2.2.1 = g) (C : zCon l g y cc' maxL' ret' d' ad sh As μ (zPd ν X)) (hd : d' < d) (lk : zLs own idx y) (cd : zCd y cc' maxL' ret' n)
    (hn1 : As.length = n) (hst : st = As.reverse ++ rest) (hr8 : (rest.map fun v => v.category).sum ≤ 8) (dg : decode cc pc = .ok (.invokestatic idx, 3)) (kk : zV χ nL ad sh 0 0 (pc + 3) lv (.int (zi X) :: rest) ν) : zV χ nL ad sh 0 0 pc lv st μ :=
  z_callS K hl1 hg1 C hd lk cd hn1 hst hr8 dg ⟨rfl, rfl⟩ (fun v μ' h => by obtain ⟨h1, h2⟩ := h; rw [h1, h2]; exact kk)
theorem z_callSm {ν : zMem} (K : zOk χ cc own nL d ret) (hl1 : χ.2.1 = l) (hg1 : χ.2.2.2.2.2.2.2.2.2.2.1 = g) (C : zCon l g y cc' maxL' ret' d' ad sh As μ (zPm ν)) (hd : d' < d) (lk : zLs own idx y) (cd : zCd y cc' maxL' ret' n)
    (hn1 : As.length = n) (hst : st = As.reverse ++ rest) (hr8 : (rest.map fun v => v.category).sum ≤ 8) (dg : decode cc pc = .ok (.invokestatic idx, 3)) (kk : zV χ nL ad sh 0 0 (pc + 3) lv rest ν) : zV χ nL ad sh 0 0 pc lv st μ :=
  z_callS K hl1 hg1 C hd lk cd hn1 hst hr8 dg ⟨rfl, rfl⟩ (fun v μ' h => by obtain ⟨h1, h2⟩ := h; rw [h1, h2]; exact kk)
end ZR
