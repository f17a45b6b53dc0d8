/-! WORLDS THAT GROW: new cells are put behind the others; what a constructor does -/
def zM0 : zMem := fun _ _ => 0
def zrcs (χ : zX) : Nat × Nat := match χ with
  | (_, _, _, _, _, _, _, _, _, _, _, _, _, _, rc, rs) => (rc, rs)
abbrev zY : Type := Nat ⊕ Value
def zrv (ad : Nat → Nat) (y : zY) : Value := match y with
  | .inl k => .ref (ad k)
  | .inr v => v
def zyl (ad : Nat → Nat) (l : List (Nat × zY)) : List (Nat × Value) := l.map (fun q => (q.1, zrv ad q.2))
def zys (ad : Nat → Nat) (l : List zY) : List Value := l.map (zrv ad)
def zyk (n : Nat) (y : zY) : Bool := match y with
  | .inl k => decide (k < n)
  | .inr _ => true
theorem zrv_cg {ad ad2 : Nat → Nat} {n : Nat} (h : ∀ k, k < n → ad2 k = ad k) {y : zY} (hy : zyk n y = true) : zrv ad2 y = zrv ad y := by
  cases y with
  | inl k => exact congrArg Value.ref (h k (of_decide_eq_true hy))
  | inr v => rfl
theorem zyl_cg {ad ad2 : Nat → Nat} {n : Nat} (h : ∀ k, k < n → ad2 k = ad k) {l : List (Nat × zY)} (hl : l.all (fun q => zyk n q.2) = true) : zyl ad2 l = zyl ad l := by
  apply List.map_congr_left
  intro q hq
  exact congrArg (Prod.mk q.1) (zrv_cg h (List.all_eq_true.mp hl q hq))
theorem zys_cg {ad ad2 : Nat → Nat} {n : Nat} (h : ∀ k, k < n → ad2 k = ad k) {l : List zY} (hl : l.all (zyk n) = true) : zys ad2 l = zys ad l := by
  apply List.map_congr_left
  intro q hq
  exact zrv_cg h (List.all_eq_true.mp hl q hq)
def zfk (n : Nat) (t : zF) : Bool := match t with
  | .inr (some k) => decide (k < n)
  | _ => true
def zek (n : Nat) (e : zE) : Bool := match e with
  | .inr (_, fs) => fs.all (zfk n)
  | .inl _ => true
theorem zfv_cg {ad ad2 : Nat → Nat} {n : Nat} (h : ∀ k, k < n → ad2 k = ad k) {t : zF} (ht : zfk n t = true) (z : Int) : zfv ad2 t z = zfv ad t z := by
  cases t with
  | inl k => cases k <;> rfl
  | inr o => cases o with
    | none => rfl
    | some k => exact congrArg Value.ref (h k (of_decide_eq_true ht))
theorem zfs_cg {ad ad2 : Nat → Nat} {n : Nat} (h : ∀ k, k < n → ad2 k = ad k) {fs : List zF} (ht : fs.all (zfk n) = true) (f : Nat → Int) : fs.mapIdx (fun j t => zfv ad2 t (f j)) = fs.mapIdx (fun j t => zfv ad t (f j)) := by
  apply List.ext_getElem?
  intro i
  rw [List.getElem?_mapIdx, List.getElem?_mapIdx]
  cases hi : fs[i]? with
  | none => rfl
  | some t => exact congrArg some (zfv_cg h (List.all_eq_true.mp ht t (List.mem_of_getElem? hi)) _)
theorem zce_cg {g : zG} {ad ad2 : Nat → Nat} {n : Nat} (h : ∀ k, k < n → ad2 k = ad k) {e : zE} (he : zek n e = true) (f : Nat → Int) : zce g ad2 e f = zce g ad e f := by
  cases e with
  | inl q => obtain ⟨b, m⟩ := q; cases b <;> rfl
  | inr q => obtain ⟨ci, fs⟩ := q; exact congrArg (fun x => (Sum.inr (ci, x) : va_E)) (zfs_cg h he f)
theorem zw_cg {g : zG} {ad ad2 : Nat → Nat} {sh : List zE} {μ : zMem} (h : ∀ k, k < sh.length → ad2 k = ad k) (hk : sh.all (zek sh.length) = true) : zw g ad2 sh μ = zw g ad sh μ := by
  apply List.ext_getElem?
  intro i
  unfold zw
  rw [List.getElem?_mapIdx, List.getElem?_mapIdx]
  cases hi : sh[i]? with
  | none => rfl
  | some e =>
    have h1 := (List.getElem?_eq_some_iff.mp hi).1
    show some (ad2 i, zce g ad2 e (μ i)) = some (ad i, zce g ad e (μ i))
    rw [h i h1, zce_cg h (List.all_eq_true.mp hk e (List.mem_of_getElem? hi))]
theorem zw_push {g : zG} {ad ad2 : Nat → Nat} {sh : List zE} {μ : zMem} {e : zE} (h : ∀ k, k < sh.length → ad2 k = ad k) (hk : sh.all (zek sh.length) = true) : zw g ad2 (sh ++ [e]) μ = zw g ad sh μ ++ [(ad2 sh.length, zce g ad2 e (μ sh.length))] := by
  rw [← zw_cg h hk]
  unfold zw
  rw [List.mapIdx_concat]
theorem zw_setR {g : zG} {ad : Nat → Nat} {sh : List zE} {μ : zMem} {k ci j k2 : Nat} {fs : List zF} (hs : sh[k]? = some (.inr (ci, fs))) : (zw g ad sh μ).set k (ad k, .inr (ci, (fs.mapIdx (fun i t => zfv ad t (μ k i))).set j (.ref (ad k2)))) = zw g ad (sh.set k (.inr (ci, fs.set j (.inr (some k2))))) μ := by
  have e1 : (fs.mapIdx (fun i t => zfv ad t (μ k i))).set j (.ref (ad k2)) = (fs.set j (.inr (some k2))).mapIdx (fun i t => zfv ad t (μ k i)) := by
    apply List.ext_getElem?
    intro i
    rw [List.getElem?_mapIdx, List.getElem?_set, List.getElem?_set, List.length_mapIdx, List.getElem?_mapIdx]
    by_cases hi : j = i
    · subst hi
      simp only [if_true]
      split
      · rfl
      · rfl
    · simp only [hi, if_false]
  rw [e1]
  apply List.ext_getElem?
  intro i
  obtain ⟨hl, he⟩ := List.getElem?_eq_some_iff.mp hs
  unfold zw
  rw [List.getElem?_mapIdx, List.getElem?_set, List.getElem?_set, List.length_mapIdx, List.getElem?_mapIdx]
  by_cases hi : k = i
  · subst hi
    simp only [if_true, hl]
    rfl
  · simp only [hi, if_false]
/-- fields of an object just made -/
def zd0 (t : zF) : Value := match t with
  | .inl 0 => .int 0
  | .inl (_ + 1) => .long 0
  | .inr _ => .null
theorem zd0_is {ad : Nat → Nat} {fs : List zF} (h : fs.all (zfk 0) = true) (j : Nat) : vp_V (fs.mapIdx (fun i t => zfv ad t (zz0 i))) j = zd0 (fs.getD j (.inr none)) := by
  unfold vp_V
  rw [List.getD_eq_getElem?_getD, List.getD_eq_getElem?_getD, List.getElem?_mapIdx]
  cases hj : fs[j]? with
  | none => rfl
  | some t =>
    have ht := List.all_eq_true.mp h t (List.mem_of_getElem? hj)
    cases t with
    | inl k => cases k <;> rfl
    | inr o => cases o with
      | none => rfl
      | some k => exact absurd (of_decide_eq_true (show decide (k < 0) = true from ht)) (Nat.not_lt_zero k)
def zNw (own : String) (idx ci N : Nat) (fs : List zF) : Prop := ∃ (C : String) (T : u_T) (ty : Nat → FieldType), vwCl[ci]? = some (C, T, N) ∧ (∀ w ∈ u_ws C T N, w ∈ lw_g) ∧ (∀ k, k < N → parseFieldDescriptor (T k).2.2.1 = some (ty k)) ∧ Cond.classLink own idx C ∈ lw_g ∧ Cond.instantiable C N ∈ lw_g ∧ Cond.initialized C ∈ lw_g ∧ fs.all (zfk 0) = true ∧ ∀ j, j < N → defaultValue (ty j) = zd0 (fs.getD j (.inr none))
section ZG
variable {χ : zX} {cc : ByteArray} {own : String} {nL d : Nat} {ret : Option FieldType} {ad : Nat → Nat} {sh : List zE} {n1 n2 pc : Nat} {μ : zMem}
set_option maxHeartbeats 4000000 in
theorem z_new (K : zOk χ cc own nL d ret) {idx ci N : Nat} {fs : List zF} (lvp : List (Nat × zY)) (stp : List zY) (dg : decode cc pc = .ok (.new idx, 3)) (nw : zNw own idx ci N fs) (n : Nat) (hn : sh.length = n) {sh2 : List zE} (hsh : sh ++ [.inr (ci, fs)] = sh2) (hμ : μ n = zz0) (hk : (sh.all (zek n) && (lvp.all (fun q => zyk n q.2) && stp.all (zyk n))) = true) (hc : n1 + 1 ≤ (zrcs χ).1 ∧ n2 + N ≤ (zrcs χ).2)
    (kk : ∀ ad2 : Nat → Nat, (∀ k, k < n → ad2 k = ad k) → zV χ nL ad2 sh2 (n1 + 1) (n2 + N) (pc + 3) (zyl ad2 lvp) (.ref (ad2 n) :: zys ad2 stp) μ) : zV χ nL ad sh n1 n2 pc (zyl ad lvp) (zys ad stp) μ := by
  obtain ⟨p, l, e, R, s, m, args, below, meth, c, g, A, H0, Post, rc, rs⟩ := χ
  obtain ⟨hx, hb, hml, ho, ht, hn9, hK, hlk, hret, hH, hA, hfr, hlo, hrc, hrs⟩ := K
  subst hsh
  subst hn
  obtain ⟨C, T, ty, hC, hin, hty, hcl, hinst, hini, hfs0, hdef⟩ := nw
  simp only [Bool.and_eq_true] at hk
  obtain ⟨hk1, hk2, hk3⟩ := hk
  have hc1 : n1 + 1 ≤ rc := hc.1
  have hc2 : n2 + N ≤ rs := hc.2
  intro H locs ls hP hD hS hl
  refine va_new (fs := fs.mapIdx (fun i t => zfv ad t (zz0 i))) hx hb ht hin ty hty ho (ht _ hcl) (ht _ hinst) (ht _ hini) hK hP hD hS hA hC (fun j hj => by rw [zd0_is hfs0]; exact hdef j hj) (by omega) (by omega) dg (fun q H1 hP1 hD1 hS1 => ?_)
  have h2 : ∀ k, k < sh.length → (fun k => if k = sh.length then q else ad k) k = ad k := fun k hk => if_neg (by omega)
  have e1 : zw g (fun k => if k = sh.length then q else ad k) (sh ++ [.inr (ci, fs)]) μ = zw g ad sh μ ++ [(q, .inr (ci, fs.mapIdx (fun i t => zfv ad t (zz0 i))))] := by
    rw [zw_push h2 hk1, hμ, zce_cg (e := .inr (ci, fs)) (ad := ad) (n := 0) (fun k hk => absurd hk (Nat.not_lt_zero k)) hfs0]
    try dsimp only
    rw [if_pos rfl]
    rfl
  have h9 := kk (fun k => if k = sh.length then q else ad k) h2 H1 locs ls (by rw [e1]; exact hP1) (by rw [e1]; exact hD1) hS1 (by rw [zyl_cg h2 hk2]; exact hl)
  rw [zys_cg h2 hk3] at h9
  try dsimp only at h9
  rw [if_pos rfl] at h9
  exact h9
def zAc (aty : ArrayType) (ty : FieldType) (b : Bool) : Prop := Cond.arrayClass ty ∈ lw_g ∧ newarray.typeOf aty = ty ∧ ((b = false ∧ ty = .int) ∨ (b = true ∧ ty = .boolean))
set_option maxHeartbeats 4000000 in
theorem z_newa (K : zOk χ cc own nL d ret) {aty : ArrayType} {ty : FieldType} {b : Bool} {N : Nat} {a : Int} (lvp : List (Nat × zY)) (stp : List zY) (dg : decode cc pc = .ok (.newarray aty, 2)) (ha : zAc aty ty b) (hN : a = (N : Int)) (hN9 : N ≤ 100000) (n : Nat) (hn : sh.length = n) {sh2 : List zE} (hsh : sh ++ [.inl (b, N)] = sh2) (hμ : μ n = zz0) (hk : (sh.all (zek n) && (lvp.all (fun q => zyk n q.2) && stp.all (zyk n))) = true) (hc : n1 + 1 ≤ (zrcs χ).1 ∧ n2 + N ≤ (zrcs χ).2)
    (kk : ∀ ad2 : Nat → Nat, (∀ k, k < n → ad2 k = ad k) → zV χ nL ad2 sh2 (n1 + 1) (n2 + N) (pc + 2) (zyl ad2 lvp) (.ref (ad2 n) :: zys ad2 stp) μ) : zV χ nL ad sh n1 n2 pc (zyl ad lvp) (.int (zi a) :: zys ad stp) μ := by
  obtain ⟨p, l, e, R, s, m, args, below, meth, c, g, A, H0, Post, rc, rs⟩ := χ
  obtain ⟨hx, hb, hml, ho, ht, hn9, hK, hlk, hret, hH, hA, hfr, hlo, hrc, hrs⟩ := K
  subst hsh
  subst hn
  obtain ⟨har, hty, hbt⟩ := ha
  simp only [Bool.and_eq_true] at hk
  obtain ⟨hk1, hk2, hk3⟩ := hk
  have hc1 : n1 + 1 ≤ rc := hc.1
  have hc2 : n2 + N ≤ rs := hc.2
  intro H locs ls hP hD hS hl
  have hz0 : zi 0 = 0 := rfl
  refine va_newa (ty := ty) (n := zi a) (N' := N) (a0 := (N, .inl (fun j => zi (zz0 j)))) hx hb (by rw [hty]; exact ht _ har) hty hK hP hD hS hA (fun cA => ?_) (by subst hN; rw [zi_nat]; exact nI_pos (by omega)) (zi_clamp hN (by omega)) ?_ (by omega) (by omega) dg (fun q cA H1 hK1 hP1 hD1 hS1 => ?_)
  · rcases hbt with ⟨-, rfl⟩ | ⟨-, rfl⟩ <;> rfl
  · rcases hbt with ⟨-, rfl⟩ | ⟨-, rfl⟩
    · show N * 4 ≤ 536870912; omega
    · show N * 1 ≤ 536870912; omega
  · have h2 : ∀ k, k < sh.length → (fun k => if k = sh.length then q else ad k) k = ad k := fun k hk => if_neg (by omega)
    have e1 : zw g (fun k => if k = sh.length then q else ad k) (sh ++ [.inl (b, N)]) μ = zw g ad sh μ ++ [(q, .inl (cA, (N, .inl (fun j => zi (zz0 j)))))] := by
      rw [zw_push h2 hk1, hμ]
      try dsimp only
      rw [if_pos rfl]
      have hq := (hK1.2 2 (cA, ty) rfl).2
      rcases hbt with ⟨rfl, rfl⟩ | ⟨rfl, rfl⟩
      · have h0 := (hK.2 0 (g.2.1, .int) rfl).2
        have e2 : cA = g.2.1 := Option.some.inj (hq.symm.trans h0)
        rw [e2]
        rfl
      · have h0 := (hK.2 1 (g.2.2, .boolean) rfl).2
        have e2 : cA = g.2.2 := Option.some.inj (hq.symm.trans h0)
        rw [e2]
        rfl
    have h9 := kk (fun k => if k = sh.length then q else ad k) h2 H1 locs ls (by rw [e1]; exact hP1) (by rw [e1]; exact hD1) hS1 (by rw [zyl_cg h2 hk2]; exact hl)
    rw [zys_cg h2 hk3] at h9
    try dsimp only at h9
    rw [if_pos rfl] at h9
    exact h9
/-- a final field, written in its own constructor -/
def zFf (own : String) (idx ci j : Nat) (t : FieldType) : Prop := ∃ (C : String) (T : u_T) (N : Nat) (ty : Nat → FieldType), vwCl[ci]? = some (C, T, N) ∧ j < N ∧ Cond.fieldLink own idx (T j).1 (T j).2.1 (T j).2.2.1 ∈ lw_g ∧ (∀ w ∈ u_ws C T N, w ∈ lw_g) ∧ (∀ k, k < N → parseFieldDescriptor (T k).2.2.1 = some (ty k)) ∧ (∀ a, a < N → ∀ b, b < N → a ≠ b → (T a).2.1 ≠ (T b).2.1) ∧ (T j).2.2.2 = true ∧ (T j).1 = own ∧ parseFieldDescriptor (T j).2.2.1 = some t
def zRt (t : FieldType) : Prop := ∀ a : Nat, narrow t (.ref a) = .ref a ∧ fits t (.ref a) = true
variable {lv : List (Nat × Value)} {st : List Value}
set_option maxHeartbeats 4000000 in
theorem z_putFr (K : zOk χ cc own nL d ret) (hI : χ.2.2.2.2.2.2.2.2.1.name = "<init>") {idx ci j k k2 : Nat} {fs : List zF} {t : FieldType} (dg : decode cc pc = .ok (.putfield idx, 3)) (fl : zFf own idx ci j t) (hr : zRt t) (hs : sh[k]? = some (.inr (ci, fs))) (hj : j < fs.length) {sh2 : List zE} (hsh : sh.set k (.inr (ci, fs.set j (.inr (some k2)))) = sh2)
    (kk : zV χ nL ad sh2 n1 n2 (pc + 3) lv st μ) : zV χ nL ad sh n1 n2 pc lv (.ref (ad k2) :: .ref (ad k) :: st) μ := by
  obtain ⟨p, l, e, R, s, m, args, below, meth, c, g, A, H0, Post, rc, rs⟩ := χ
  obtain ⟨hx, hb, hml, ho, ht, hn, hK, hlk, hret, hH, hA, hfr, hlo, hrc, hrs⟩ := K
  subst hsh
  intro H locs ls hP hD hS hl
  obtain ⟨C, T, N, ty, hc, hj9, hlk2, hws, hty, hnm, hfin, hdecl, hd⟩ := fl
  have he : (zw g ad sh μ)[k]? = some (ad k, .inr (ci, fs.mapIdx (fun i t => zfv ad t (μ k i)))) := zw_at hs
  exact va_putF hx hb ht hws ty hty hnm ho hK hP hD hS k he hc j hj9 (ht _ hlk2) (fun x h => h) hfin hI hdecl hd (hr _).1 (hr _).2 (by rw [List.length_mapIdx]; exact hj) dg (fun H1 locs1 a1 a2 a3 => kk H1 locs1 ls (by rw [← zw_setR hs]; exact a1) (by rw [← zw_setR hs]; exact a2) a3 hl)
set_option maxHeartbeats 4000000 in
theorem z_putFi (K : zOk χ cc own nL d ret) (hI : χ.2.2.2.2.2.2.2.2.1.name = "<init>") {idx ci j k : Nat} {fs : List zF} {z : Int} (dg : decode cc pc = .ok (.putfield idx, 3)) (fl : zFf own idx ci j .int) (hs : sh[k]? = some (.inr (ci, fs))) (hf : fs[j]? = some (.inl 0))
    (kk : zV χ nL ad sh n1 n2 (pc + 3) lv st (zup μ k (zu1 (μ k) j z))) : zV χ nL ad sh n1 n2 pc lv (.int (zi z) :: .ref (ad k) :: st) μ := by
  obtain ⟨p, l, e, R, s, m, args, below, meth, c, g, A, H0, Post, rc, rs⟩ := χ
  obtain ⟨hx, hb, hml, ho, ht, hn, hK, hlk, hret, hH, hA, hfr, hlo, hrc, hrs⟩ := K
  intro H locs ls hP hD hS hl
  obtain ⟨C, T, N, ty, hc, hj9, hlk2, hws, hty, hnm, hfin, hdecl, hd⟩ := fl
  have he : (zw g ad sh μ)[k]? = some (ad k, .inr (ci, fs.mapIdx (fun i t => zfv ad t (μ k i)))) := zw_at hs
  have e2 : (zw g ad sh μ).set k (ad k, .inr (ci, (fs.mapIdx (fun i t => zfv ad t (μ k i))).set j (.int (zi z)))) = zw g ad sh (zup μ k (zu1 (μ k) j z)) := by
    rw [← zw_set hs]
    exact congrArg (fun q => (zw g ad sh μ).set k (ad k, .inr (ci, q))) (zfs_set hf (μ k) z)
  have hl2 : j < (fs.mapIdx (fun i t => zfv ad t (μ k i))).length := by rw [List.length_mapIdx]; exact (List.getElem?_eq_some_iff.mp hf).1
  exact va_putF hx hb ht hws ty hty hnm ho hK hP hD hS k he hc j hj9 (ht _ hlk2) (fun x h => h) hfin hI hdecl hd rfl rfl hl2 dg (fun H1 locs1 a1 a2 a3 => kk H1 locs1 ls (e2 ▸ a1) (e2 ▸ a2) a3 hl)
def zOi (own : String) (idx : Nat) : Prop := Cond.methodLink own idx Lib.objectInit ∈ lw_g ∧ Cond.instanceMethod Lib.objectInit ∈ lw_g ∧ Cond.code Lib.objectInit ⟨#[0xb1]⟩ 1 none ∈ lw_g
set_option maxHeartbeats 4000000 in
theorem z_obj (K : zOk χ cc own nL d ret) {idx a : Nat} (dg : decode cc pc = .ok (.invokespecial idx, 3)) (lk : zOi own idx) (hd : 1 ≤ d) (kk : zV χ nL ad sh n1 n2 (pc + 3) lv [] μ) : zV χ nL ad sh n1 n2 pc lv [.ref a] μ := by
  obtain ⟨p, l, e, R, s, m, args, below, meth, c, g, A, H0, Post, rc, rs⟩ := χ
  obtain ⟨hx, hb, hml, ho, ht, hn, hK, hlk, hret, hH, hA, hfr, hlo, hrc, hrs⟩ := K
  intro H locs ls hP hD hS hl
  have h8 := lv_room (m := m) (pc := pc) (ls := ls) (rest := [.ref a]) (st := ([] : List Value)) (Nat.zero_le _)
  exact W.objInit hx hb ho (ht _ lk.1) (ht _ lk.2.1) (ht _ lk.2.2) rfl (by rw [hml]; exact hl.1) rfl dg (by omega) (by omega) (kk H locs ls hP hD hS hl)
end ZG
/-- a constructor's contract: from the world ad, sh, μ it comes to sh2, μ2; the old places stay -/
def zCN (l : Launch) (g : zG) (y : MethodName) (cc : ByteArray) (maxL d mc ms : Nat) (ad : Nat → Nat) (sh : List zE) (as : List Value) (μ : zMem) (sh2 : List zE) (μ2 : zMem) : Prop :=
  ∀ sz : Nat, Met l y (.code y cc maxL none :: lw_g) { frames := d, cells := mc, slots := ms, locals := 36 * d } (va_Pc as (fun U => U.heap.size = sz ∧ zU g ad sh μ U))
    (zQ g (zA ad sh.length sz) (fun v ad' sh' μ' => v = none ∧ (∀ k, k < sh.length → ad' k = ad k) ∧ sh' = sh2 ∧ μ' = μ2)) mc ms (zA ad sh.length sz)
def zRN (χ : zX) (n : Nat) (ad : Nat → Nat) (sh2 : List zE) (μ2 : zMem) : Prop :=
  match χ with
  | (_, _, _, _, _, _, _, _, _, _, _, _, _, Post, _, _) => ∀ ad', (∀ k, k < n → ad' k = ad k) → Post none ad' sh2 μ2
set_option maxHeartbeats 4000000 in
theorem zCN_of {l : Launch} {g : zG} {y : MethodName} {cc : ByteArray} {maxL d mc ms : Nat} {ad : Nat → Nat} {sh : List zE} {as : List Value} {μ : zMem} {sh2 : List zE} {μ2 : zMem} (n : Nat) (hn : sh.length = n)
    (hpl : plainName y.cls = true) (hlen : (lg_sl as).length ≤ maxL) (hyn : y.name = "<init>")
    (body : ∀ χ : zX, zOk χ cc y.cls maxL d none → zRN χ n ad sh2 μ2 → zrcs χ = (mc, ms) → χ.2.1 = l → χ.2.2.2.2.2.2.2.2.2.2.1 = g → χ.2.2.2.2.2.2.2.2.1.name = "<init>" → zV χ maxL ad sh 0 0 0 (lv_args 0 as) [] μ) : zCN l g y cc maxL d mc ms ad sh as μ sh2 μ2 := by
  intro sz
  refine Met.ofW (cc := cc) (maxL := maxL) (ret := none) hpl rfl ?_
  intro p e s m args below meth c s₁ B hml hv
  obtain ⟨rfl, hsz, hP, hK, hD0, hN⟩ := hv
  have hts := atoms_spec (ws := Cond.code y cc maxL none :: lw_g) B.pre
  have hown : s.vm.findClass y.cls = some m.cls := findClass_of_methodNamed B.named
  subst hsz
  subst hn
  have hl := lv_entry as (n := maxL) hlen
  rw [lg_entry_eq]
  exact body (p, l, e, _, s, m, _, below, meth, c, g, zA ad sh.length s.heap.size, s.heap, _, mc, ms)
    ⟨B.exec, B.bytes, hml, hown, fun w hw => hts w (List.mem_cons_of_mem _ hw), hN, hK, B.notSynchronized, B.returns, rfl, fun q h => Or.inr h, rfl, Nat.le_refl _, Nat.le_refl _, Nat.le_refl _⟩
    (fun ad' h => ⟨rfl, h, rfl, rfl⟩) rfl rfl rfl ((name_of_methodNamed B.named B.method).1.trans hyn) s.heap [] _ hP (zA_D hD0) va_S.rf hl
section ZH
variable {χ : zX} {cc : ByteArray} {own : String} {nL d : Nat} {ret : Option FieldType} {ad : Nat → Nat} {sh : List zE} {n1 n2 pc : Nat} {μ : zMem} {lv : List (Nat × Value)} {st : List Value}
set_option maxHeartbeats 4000000 in
theorem z_vretN {n : Nat} {ad0 : Nat → Nat} {sh2 : List zE} {μ2 : zMem} (K : zOk χ cc own nL d ret) (T : zRN χ n ad0 sh2 μ2) (hc : zrcs χ = (n1, n2)) (hR : ret = none) (dg : decode cc pc = .ok (.return_, 1)) (hsh : sh = sh2) (hm : μ = μ2) (ha : ∀ k, k < n → ad k = ad0 k) : zV χ nL ad sh n1 n2 pc lv [] μ := by
  obtain ⟨p, l, e, R, s, m, args, below, meth, c, g, A, H0, Post, rc, rs⟩ := χ
  obtain ⟨hx, hb, hml, ho, ht, hn, hK, hlk, hret, hH, hA, hfr, hlo, hrc, hrs⟩ := K
  intro H locs ls hP hD hS hl
  have h1 : rc = n1 := congrArg Prod.fst hc
  have h2 : rs = n2 := congrArg Prod.snd hc
  subst h1; subst h2; subst hH; subst hsh; subst hm
  exact W.vret hx hb (hret.trans hR) (fun t ht9 hW => ⟨⟨_, ad, sh, μ, rfl, T ad ha, by rw [ht9]; exact hP, hD⟩, hS.F ht9⟩) hS.2.2 dg hlk
set_option maxHeartbeats 4000000 in
theorem z_callI (K : zOk χ cc own nL d ret) {l : Launch} {g : zG} (hl1 : χ.2.1 = l) (hg1 : χ.2.2.2.2.2.2.2.2.2.2.1 = g)
    {y : MethodName} {cc' : ByteArray} {maxL' : Nat} {d' idx n kb mc ms : Nat} {As : List Value} {sh2 : List zE} {μ2 : zMem} (lvp : List (Nat × zY)) (stp : List zY)
    (C : zCN l g y cc' maxL' d' mc ms ad sh (.ref (ad kb) :: As) μ sh2 μ2) (hd : d' < d) (lk : Cond.instanceMethod y ∈ lw_g ∧ zLk own idx y) (cd : zCd y cc' maxL' none n) (hyn : y.name = "<init>")
    (hn1 : As.length = n) (hst : st = As.reverse ++ .ref (ad kb) :: zys ad stp) (hr8 : ((zys ad stp).map fun v => v.category).sum ≤ 8) (dg : decode cc pc = .ok (.invokespecial idx, 3)) (n9 : Nat) (hn9 : sh.length = n9) (hk : (lvp.all (fun q => zyk n9 q.2) && stp.all (zyk n9)) = true) (hc : n1 + mc ≤ (zrcs χ).1 ∧ n2 + ms ≤ (zrcs χ).2)
    (kk : ∀ ad2 : Nat → Nat, (∀ k, k < n9 → ad2 k = ad k) → zV χ nL ad2 sh2 (n1 + mc) (n2 + ms) (pc + 3) (zyl ad2 lvp) (zys ad2 stp) μ2) : zV χ nL ad sh n1 n2 pc (zyl ad lvp) st μ := by
  obtain ⟨p, l, e, R, s, m, args, below, meth, c, g, A, H0, Post, rc, rs⟩ := χ
  obtain ⟨hx, hb, hml, ho, ht, hn, hK, hlk, hret, hH, hA, hfr, hlo, hrc, hrs⟩ := K
  subst hl1; subst hg1; subst hst; subst hn9
  simp only [Bool.and_eq_true] at hk
  have hc1 : n1 + mc ≤ rc := hc.1
  have hc2 : n2 + ms ≤ rs := hc.2
  intro H locs ls hP hD hS hl
  obtain ⟨hcd, hini, hdd, hml'⟩ := cd
  obtain ⟨hinst, hlnk⟩ := lk
  have hR : ({ frames := d', cells := mc, slots := ms, locals := 36 * d' } : Room).frames + 1 ≤ R.frames ∧ 8 + (maxL' + 11) + ({ frames := d', cells := mc, slots := ms, locals := 36 * d' } : Room).locals ≤ R.locals := by
    constructor
    · show d' + 1 ≤ _; omega
    · show 8 + (maxL' + 11) + 36 * d' ≤ _; omega
  have hp : PreS s H (va_Pc (.ref (ad kb) :: As) (fun U => U.heap.size = H.size ∧ zU g ad sh μ U)) (.ref (ad kb) :: As) := ⟨zU_blind, fun U hU hW => ⟨rfl, by rw [hU], zU_of hU hW hP hD hK hn⟩⟩
  have hrun : va_Run p l e R s m args below meth c H locs n1 n2 mc ms (F0 m pc ls (As.reverse ++ .ref (ad kb) :: zys ad stp)) (zys ad stp) (zQ g (zA ad sh.length H.size) (fun v ad' sh' μ' => v = none ∧ (∀ k, k < sh.length → ad' k = ad k) ∧ sh' = sh2 ∧ μ' = μ2) (Value.ref (ad kb) :: As).toArray) (zA ad sh.length H.size) := by
    rcases hlnk with h | ⟨host, h⟩
    · exact va_runI ⟨hx, hb, hml, ho, ht⟩ (C H.size) ⟨callB_of n ht (zg_good hcd) rfl rfl rfl (ht _ hini) (ht _ h) hdd hR, hyn, ht _ hinst⟩ hp rfl hn1 hl.1 rfl (lv_room hr8) dg ⟨by omega, by omega⟩
    · exact va_runIN ⟨hx, hb, hml, ho, ht⟩ (C H.size) ⟨va_cnB n ht (zg_good hcd) rfl rfl rfl (hn _ h) (ht _ hini) hdd hR, hyn, ht _ hinst⟩ hp rfl hn1 hl.1 rfl (lv_room hr8) dg ⟨by omega, by omega⟩
  refine z_cont hrun hS (zA_sub hD hS hA) (fun v ad' sh' μ' H1 locs1 hpo hP1 hD1 hS1 => ?_)
  obtain ⟨rfl, ha, rfl, rfl⟩ := hpo
  have h9 := kk ad' ha H1 locs1 ls hP1 (hD1.weaken (fun k q _ h => zA_sub hD hS hA _ h)) hS1 (by rw [zyl_cg ha hk.1]; exact hl)
  rw [zys_cg ha hk.2] at h9
  exact h9
/-- a call in a frame that has made cells -/
theorem z_callVG (K : zOk χ cc own nL d ret) {l : Launch} {g : zG} (hl1 : χ.2.1 = l) (hg1 : χ.2.2.2.2.2.2.2.2.2.2.1 = g)
    {y : MethodName} {cc' : ByteArray} {maxL' : Nat} {ret' : Option FieldType} {d' idx n kb ci N : Nat} {T : u_T} {fs : List zF} {As rest : List Value} {Po : Option Value → zMem → Prop}
    (C : zCon l g y cc' maxL' ret' d' ad sh (.ref (ad kb) :: As) μ Po) (hd : d' < d) (lk : zLv own idx y) (cd : zCd y cc' maxL' ret' n) (hs : sh[kb]? = some (.inr (ci, fs))) (hc : vwCl[ci]? = some (y.cls, T, N))
    (hn1 : As.length = n) (hst : st = As.reverse ++ .ref (ad kb) :: rest) (hr8 : (rest.map fun v => v.category).sum ≤ 8) (dg : decode cc pc = .ok (.invokevirtual idx, 3)) (hrm : n1 ≤ (zrcs χ).1 ∧ n2 ≤ (zrcs χ).2)
    (kk : ∀ v μ', Po v μ' → zV χ nL ad sh n1 n2 (pc + 3) lv (v.toList ++ rest) μ') : zV χ nL ad sh n1 n2 pc lv st μ := by
  obtain ⟨p, l, e, R, s, m, args, below, meth, c, g, A, H0, Post, rc, rs⟩ := χ
  obtain ⟨hx, hb, hml, ho, ht, hn, hK, hlk, hret, hH, hA, hfr, hlo, hrc, hrs⟩ := K
  subst hl1; subst hg1; subst hst
  have hc1 : n1 ≤ rc := hrm.1
  have hc2 : n2 ≤ rs := hrm.2
  intro H locs ls hP hD hS hl
  obtain ⟨hcd, hini, hdd, hml'⟩ := cd
  obtain ⟨hinst, hsel, hlnk⟩ := lk
  have hR : ({ frames := d', cells := 0, slots := 0, locals := 36 * d' } : Room).frames + 1 ≤ R.frames ∧ 8 + (maxL' + 11) + ({ frames := d', cells := 0, slots := 0, locals := 36 * d' } : Room).locals ≤ R.locals := by
    constructor
    · show d' + 1 ≤ _; omega
    · show 8 + (maxL' + 11) + 36 * d' ≤ _; omega
  have hp : PreV s H y.cls (ad kb) (va_Pc (.ref (ad kb) :: As) (fun U => U.heap.size = H.size ∧ zU g ad sh μ U)) As := ⟨zU_blind, va_recv hK hP hc (zw_at hs), fun U hU hW => ⟨rfl, by rw [hU], zU_of hU hW hP hD hK hn⟩⟩
  have hrun : va_Run p l e R s m args below meth c H locs n1 n2 0 0 (F0 m pc ls (As.reverse ++ .ref (ad kb) :: rest)) rest (zQ g (zA ad sh.length H.size) (fun v ad' sh' μ' => ad' = ad ∧ sh' = sh ∧ Po v μ') (Value.ref (ad kb) :: As).toArray) (zA ad sh.length H.size) := by
    rcases hlnk with h | ⟨host, h⟩
    · exact va_runV ⟨hx, hb, hml, ho, ht⟩ (C H.size) ⟨callB_of n ht (zg_good hcd) rfl rfl rfl (ht _ hini) (ht _ h) hdd hR, ht _ hinst, ht _ hsel⟩ hp rfl hn1 hl.1 rfl (lv_room hr8) dg ⟨by omega, by omega⟩
    · exact va_runVN ⟨hx, hb, hml, ho, ht⟩ (C H.size) ⟨va_cnB n ht (zg_good hcd) rfl rfl rfl (hn _ h) (ht _ hini) hdd hR, ht _ hinst, ht _ hsel⟩ hp rfl hn1 hl.1 rfl (lv_room hr8) dg ⟨by omega, by omega⟩
  refine z_cont hrun hS (zA_sub hD hS hA) (fun v ad' sh' μ' H1 locs1 hpo hP1 hD1 hS1 => ?_)
  obtain ⟨rfl, rfl, hpo⟩ := hpo
  exact kk v μ' hpo H1 locs1 ls hP1 (hD1.weaken (fun k q _ h => zA_sub hD hS hA _ h)) hS1 hl
/-- the script -/
def zSx (χ : zX) (b L : Nat) (xs : Nat → Int32) : Prop := match χ with
  | (_, _, _, _, s, _, _, _, _, _, _, A, H0, _, _, _) => va_X b L xs s H0 ∧ b < H0.size ∧ ¬ A b
theorem z_slen (K : zOk χ cc own nL d ret) {b L : Nat} {xs : Nat → Int32} (X : zSx χ b L xs) (dg : decode cc pc = .ok (.arraylength, 1)) (kk : zV χ nL ad sh n1 n2 (pc + 1) lv (.int (zi ((L : Nat) : Int)) :: st) μ) : zV χ nL ad sh n1 n2 pc lv (.ref b :: st) μ := by
  obtain ⟨p, l, e, R, s, m, args, below, meth, c, g, A, H0, Post, rc, rs⟩ := χ
  obtain ⟨hx, hb, hml, ho, ht, hn, hK, hlk, hret, hH, hA, hfr, hlo, hrc, hrs⟩ := K
  obtain ⟨x1, x2, x3⟩ := X
  intro H locs ls hP hD hS hl
  exact va_slen hx hb x1 x2 x3 hS dg (by have h9 := kk H locs ls hP hD hS hl; rw [zi_nat] at h9; exact h9)
theorem z_sld (K : zOk χ cc own nL d ret) {b L : Nat} {xs : Nat → Int32} (X : zSx χ b L xs) (dg : decode cc pc = .ok (.iaload, 1)) {a : Int} (j : Nat) (hj : a = (j : Int)) (h1 : j < L ∧ L ≤ 100000) (kk : zV χ nL ad sh n1 n2 (pc + 1) lv (.int (zi (xs j).toInt) :: st) μ) : zV χ nL ad sh n1 n2 pc lv (.int (zi a) :: .ref b :: st) μ := by
  obtain ⟨p, l, e, R, s, m, args, below, meth, c, g, A, H0, Post, rc, rs⟩ := χ
  obtain ⟨hx, hb, hml, ho, ht, hn, hK, hlk, hret, hH, hA, hfr, hlo, hrc, hrs⟩ := K
  obtain ⟨x1, x2, x3⟩ := X
  intro H locs ls hP hD hS hl
  refine va_sld hx hb x1 x2 x3 hS (zi_in hj h1.1 h1.2) dg ?_
  rw [zi_clamp hj (by omega), zi_of (xs j)]
  exact kk H locs ls hP hD hS hl
theorem z_lshlR {x z : Int64} {y : Int32} (K : zOk χ cc own nL d ret) (dg : decode cc pc = .ok (.lshl, 1)) (hv : x <<< (y.toInt64 &&& 63) = z) (kk : zV χ nL ad sh n1 n2 (pc + 1) lv (.long z :: st) μ) : zV χ nL ad sh n1 n2 pc lv (.int y :: .long x :: st) μ := by
  obtain ⟨p, l, e, R, s, m, args, below, meth, c, g, A, H0, Post, rc, rs⟩ := χ
  obtain ⟨hx, hb, hml, ho, ht, hn, hK, hlk, hret, hH, hA, hfr, hlo, hrc, hrs⟩ := K
  intro H locs ls hP hD hS hl
  exact lv_lshl hx hb dg hv (kk H locs ls hP hD hS hl)
theorem z_landR {x y : Int64} (K : zOk χ cc own nL d ret) (dg : decode cc pc = .ok (.land, 1)) (kk : zV χ nL ad sh n1 n2 (pc + 1) lv (.long (x &&& y) :: st) μ) : zV χ nL ad sh n1 n2 pc lv (.long y :: .long x :: st) μ := by
  obtain ⟨p, l, e, R, s, m, args, below, meth, c, g, A, H0, Post, rc, rs⟩ := χ
  obtain ⟨hx, hb, hml, ho, ht, hn, hK, hlk, hret, hH, hA, hfr, hlo, hrc, hrs⟩ := K
  intro H locs ls hP hD hS hl
  exact lv_land hx hb dg (kk H locs ls hP hD hS hl)
theorem z_lorR {x y : Int64} (K : zOk χ cc own nL d ret) (dg : decode cc pc = .ok (.lor, 1)) (kk : zV χ nL ad sh n1 n2 (pc + 1) lv (.long (x ||| y) :: st) μ) : zV χ nL ad sh n1 n2 pc lv (.long y :: .long x :: st) μ := by
  obtain ⟨p, l, e, R, s, m, args, below, meth, c, g, A, H0, Post, rc, rs⟩ := χ
  obtain ⟨hx, hb, hml, ho, ht, hn, hK, hlk, hret, hH, hA, hfr, hlo, hrc, hrs⟩ := K
  intro H locs ls hP hD hS hl
  exact lv_lor hx hb dg (kk H locs ls hP hD hS hl)
/-- the law's end -/
def zLP (χ : zX) : Prop := match χ with
  | (_, _, _, _, _, _, _, _, _, _, _, _, _, Post, _, _) => ∀ ad sh μ, Post (some (.int 1)) ad sh μ
theorem z_true (K : zOk χ cc own nL d ret) (T : zLP χ) (hc : zrcs χ = (n1, n2)) (hR : ret = some .boolean) (dg : decode cc pc = .ok (.ireturn, 1)) : zV χ nL ad sh n1 n2 pc lv [.int (zi 1)] μ := by
  obtain ⟨p, l, e, R, s, m, args, below, meth, c, g, A, H0, Post, rc, rs⟩ := χ
  obtain ⟨hx, hb, hml, ho, ht, hn, hK, hlk, hret, hH, hA, hfr, hlo, hrc, hrs⟩ := K
  have h1 : rc = n1 := congrArg Prod.fst hc
  have h2 : rs = n2 := congrArg Prod.snd hc
  subst h1; subst h2; subst hH
  intro H locs ls hP hD hS hl
  exact W.zret hx hb (hret.trans hR) rfl (fun t ht9 hW => ⟨⟨_, ad, sh, μ, rfl, T ad sh μ, by rw [ht9]; exact hP, hD⟩, hS.F ht9⟩) hS.2.2 dg hlk
end ZH
