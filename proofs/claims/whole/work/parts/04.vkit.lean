/-! ONE WORLD OF PLACES: a heap of objects and arrays whose shape is known, its numbers as a memory of integers. Rows over it. -/
abbrev zMem : Type := Nat → Nat → Int
abbrev zF : Type := Nat ⊕ Option Nat
abbrev zE : Type := (Bool × Nat) ⊕ (Nat × List zF)
abbrev zG : Type := va_G × ClassId × ClassId
abbrev zR (a : Int) : Prop := -2147483648 ≤ a ∧ a ≤ 2147483647
def zi (z : Int) : Int32 := Int32.ofInt z
def zl (z : Int) : Int64 := Int64.ofInt z
def zfv (ad : Nat → Nat) (t : zF) (z : Int) : Value := match t with
  | .inl 0 => .int (zi z)
  | .inl (_ + 1) => .long (zl z)
  | .inr none => .null
  | .inr (some k) => .ref (ad k)
def zce (g : zG) (ad : Nat → Nat) (e : zE) (f : Nat → Int) : va_E := match e with
  | .inl (false, n) => .inl (g.2.1, n, .inl (fun j => zi (f j)))
  | .inl (true, n) => .inl (g.2.2, n, .inl (fun j => zi (f j)))
  | .inr (ci, fs) => .inr (ci, fs.mapIdx (fun j t => zfv ad t (f j)))
def zw (g : zG) (ad : Nat → Nat) (sh : List zE) (μ : zMem) : va_W := sh.mapIdx (fun k e => (ad k, zce g ad e (μ k)))
def zu1 (f : Nat → Int) (i : Nat) (v : Int) : Nat → Int := fun j => if j = i then v else f j
def zup (μ : zMem) (k : Nat) (f : Nat → Int) : zMem := fun j => if j = k then f else μ j
theorem zu1_eq (f : Nat → Int) (i : Nat) (v : Int) : zu1 f i v i = v := by simp [zu1]
theorem zu1_ne (f : Nat → Int) {i j : Nat} (v : Int) (h : j ≠ i) : zu1 f i v j = f j := by simp [zu1, h]
theorem zup_eq (μ : zMem) (k : Nat) (f : Nat → Int) : zup μ k f k = f := by simp [zup]
theorem zup_ne (μ : zMem) {k j : Nat} (f : Nat → Int) (h : j ≠ k) : zup μ k f j = μ j := by simp [zup, h]
theorem zw_at {g : zG} {ad : Nat → Nat} {sh : List zE} {μ : zMem} {k : Nat} {e : zE} (h : sh[k]? = some e) : (zw g ad sh μ)[k]? = some (ad k, zce g ad e (μ k)) := by
  simp [zw, List.getElem?_mapIdx, h]
theorem zw_inv {g : zG} {ad : Nat → Nat} {sh : List zE} {μ : zMem} {k : Nat} {q : Nat × va_E} (h : (zw g ad sh μ)[k]? = some q) : ∃ e, sh[k]? = some e ∧ q = (ad k, zce g ad e (μ k)) := by
  simp only [zw, List.getElem?_mapIdx, Option.map_eq_some_iff] at h
  obtain ⟨e, h1, h2⟩ := h
  exact ⟨e, h1, h2.symm⟩
theorem zw_set {g : zG} {ad : Nat → Nat} {sh : List zE} {μ : zMem} {k : Nat} {e : zE} (h : sh[k]? = some e) (f : Nat → Int) : (zw g ad sh μ).set k (ad k, zce g ad e f) = zw g ad sh (zup μ k f) := by
  apply List.ext_getElem?
  intro i
  obtain ⟨hl, he⟩ := List.getElem?_eq_some_iff.mp h
  rw [List.getElem?_set]
  by_cases hi : k = i
  · subst hi
    simp [zw, List.getElem?_mapIdx, hl, zup, he]
  · simp [hi, zw, List.getElem?_mapIdx, zup, Ne.symm hi]
theorem zD_mem {A : Nat → Prop} {g : zG} {ad : Nat → Nat} {sh : List zE} {μ : zMem} (μ' : zMem) (h : va_D A (zw g ad sh μ)) : va_D A (zw g ad sh μ') := by
  have tr : ∀ (k : Nat) (q : Nat × va_E), (zw g ad sh μ')[k]? = some q → ∃ q', (zw g ad sh μ)[k]? = some q' ∧ q'.1 = q.1 := by
    intro k q hq
    obtain ⟨e, h1, rfl⟩ := zw_inv hq
    exact ⟨_, zw_at h1, rfl⟩
  refine ⟨fun i j p q hp hq e => ?_, fun k q hq => ?_⟩
  · obtain ⟨p', a1, a2⟩ := tr i p hp
    obtain ⟨q', b1, b2⟩ := tr j q hq
    exact h.1 i j p' q' a1 b1 (by rw [a2, b2, e])
  · obtain ⟨q', a1, a2⟩ := tr k q hq
    rw [← a2]
    exact h.2 k q' a1
theorem zD_at {A : Nat → Prop} {g : zG} {ad : Nat → Nat} {sh : List zE} {μ : zMem} (h : va_D A (zw g ad sh μ)) {k : Nat} (hk : k < sh.length) : A (ad k) := h.2 k _ (zw_at (List.getElem?_eq_getElem hk))
-- numbers
theorem zi_toInt {a : Int} (h : zR a) : (zi a).toInt = a := Int32.toInt_ofInt_of_le (by have := h.1; omega) (by have := h.2; omega)
theorem zi_le {a b : Int} (ha : zR a) (hb : zR b) : zi a ≤ zi b ↔ a ≤ b := by rw [Int32.le_iff_toInt_le, zi_toInt ha, zi_toInt hb]
theorem zi_lt {a b : Int} (ha : zR a) (hb : zR b) : zi a < zi b ↔ a < b := by rw [Int32.lt_iff_toInt_lt, zi_toInt ha, zi_toInt hb]
theorem zi_eq {a b : Int} (ha : zR a) (hb : zR b) : zi a = zi b ↔ a = b := by rw [← Int32.toInt_inj, zi_toInt ha, zi_toInt hb]
theorem zi_add (a b : Int) : zi a + zi b = zi (a + b) := (Int32.ofInt_add a b).symm
theorem zi_sub (a b : Int) : zi a - zi b = zi (a - b) := (Int32.ofInt_sub a b).symm
theorem zi_mul (a b : Int) : zi a * zi b = zi (a * b) := (Int32.ofInt_mul a b).symm
theorem zi_neg (a : Int) : - zi a = zi (-a) := (Int32.ofInt_neg a).symm
theorem zi_of (x : Int32) : x = zi x.toInt := (Int32.ofInt_toInt x).symm
theorem zi_rg (x : Int32) : zR x.toInt := ⟨by have := Int32.le_toInt x; omega, by have := Int32.toInt_lt x; omega⟩
theorem zi_nat (n : Nat) : zi (n : Int) = nI n := Int32.ofInt_eq_ofNat
theorem zi_clamp {a : Int} {j : Nat} (h : a = (j : Int)) (hj : j < 2147483648) : (zi a).toNatClampNeg = j := by
  subst h
  rw [zi_nat]
  exact nI_clamp (by omega)
theorem zi_in {a : Int} {j n : Nat} (h : a = (j : Int)) (hj : j < n) (hn : n ≤ 100000) : vp_in (zi a) n := by
  subst h
  rw [zi_nat]
  exact vp_in_nI hj (by omega)
theorem zi_tdiv {a b : Int} (ha : zR a) (hb : zR b) (h0 : 0 < b) : zi a / zi b = zi (a.tdiv b) := by
  have hne : zi b ≠ -1 := fun h => by
    have := congrArg Int32.toInt h
    rw [zi_toInt hb] at this
    have h1 : (-1 : Int32).toInt = -1 := rfl
    omega
  have hr : zR (a.tdiv b) := by
    have h1 : (a.tdiv b).natAbs ≤ a.natAbs := by rw [Int.natAbs_tdiv]; exact Nat.div_le_self _ _
    by_cases hn : a = -2147483648
    · constructor
      · omega
      · have h2 : (0 : Int) ≤ (2147483648 : Int).tdiv b := Int.tdiv_nonneg (by decide) (by omega)
        have h3 : a.tdiv b = -((2147483648 : Int).tdiv b) := by rw [hn, ← Int.neg_tdiv]
        omega
    · constructor <;> omega
  rw [← Int32.toInt_inj, Int32.toInt_div_of_ne_right _ _ hne, zi_toInt ha, zi_toInt hb, zi_toInt hr]
theorem zl_toInt {a : Int} (h : -9223372036854775808 ≤ a ∧ a ≤ 9223372036854775807) : (zl a).toInt = a := Int64.toInt_ofInt_of_le (by have := h.1; omega) (by have := h.2; omega)
theorem zl_add (a b : Int) : zl a + zl b = zl (a + b) := (Int64.ofInt_add a b).symm
theorem zl_sub (a b : Int) : zl a - zl b = zl (a - b) := (Int64.ofInt_sub a b).symm
theorem zl_mul (a b : Int) : zl a * zl b = zl (a * b) := (Int64.ofInt_mul a b).symm
theorem zl_of (x : Int64) : x = zl x.toInt := (Int64.ofInt_toInt x).symm
theorem zl_i (a : Int) : (zl a).toInt32 = zi a := Int64.toInt32_ofInt
theorem zi_l {a : Int} (h : zR a) : (zi a).toInt64 = zl a := by
  show Int64.ofInt (zi a).toInt = zl a
  rw [zi_toInt h]
  rfl
-- the tables' words
def zn : Cond → Bool
  | .fieldLinkNest .. => true
  | .methodLinkNest .. => true
  | _ => false
def lw_g : List Cond := lw_tbl.filter goodWord
def lw_n : List Cond := lw_tbl.filter zn
theorem zg_in {w : Cond} (i : Nat) (h : lw_tbl[i]? = some w) (hg : goodWord w = true) : w ∈ lw_g := List.mem_filter.mpr ⟨List.mem_of_getElem? h, hg⟩
theorem zn_in {w : Cond} (i : Nat) (h : lw_tbl[i]? = some w) (hg : zn w = true) : w ∈ lw_n := List.mem_filter.mpr ⟨List.mem_of_getElem? h, hg⟩
theorem zn_tab {w : Cond} (h : w ∈ lw_n) : w.onTables = true := by
  have h1 := (List.mem_filter.mp h).2
  cases w <;> first | rfl | cases h1
theorem zn_warm {s U : State} (hW : s.WarmedH U.vm) (h : ∀ w ∈ lw_n, va_Nw w s) : ∀ w ∈ lw_n, va_Nw w U := by
  intro w hw
  have h1 := (List.mem_filter.mp hw).2
  have h2 := h w hw
  cases w <;> first | exact va_Nw.warmF hW h2 | exact va_Nw.warmM hW h2 | cases h1
theorem zg_good {y : MethodName} {cc : ByteArray} {n : Nat} {ret : Option FieldType} (h : Cond.code y cc n ret ∈ lw_g) : GoodIn lw_g (.code y cc n ret :: lw_g) := by
  intro w hw
  have h1 : w ∈ lw_g := (List.mem_cons.mp hw).elim (fun e => e ▸ h) id
  exact ⟨h1, good_of_word (List.mem_filter.mp h1).2⟩
-- the judgement
abbrev zX : Type := Program × Launch × Env × Room × State × MethodId × Array Value × List Frame × Method × Code × zG × (Nat → Prop) × Heap × (Option Value → (Nat → Nat) → List zE → zMem → Prop) × Nat × Nat
abbrev zT (g : zG) : List (ClassId × FieldType) := [(g.2.1, .int), (g.2.2, .boolean)]
def zQ (g : zG) (A : Nat → Prop) (Post : Option Value → (Nat → Nat) → List zE → zMem → Prop) : Array Value → State → Outcome → State → Prop := fun _ st oc t =>
  (∃ (v : Option Value) (ad : Nat → Nat) (sh : List zE) (μ : zMem), oc = .returned v ∧ Post v ad sh μ ∧ va_P g.1 vwCl (zw g ad sh μ) t.heap ∧ va_D A (zw g ad sh μ)) ∧ va_F A st t
def zV (χ : zX) (nL : Nat) (ad : Nat → Nat) (sh : List zE) (n1 n2 pc : Nat) (lv : List (Nat × Value)) (st : List Value) (μ : zMem) : Prop :=
  match χ with
  | (p, l, e, R, s, m, args, below, meth, c, g, A, H0, Post, rc, rs) => ∀ (H : Heap) (locs : List Loc) (ls : Array Slot), va_P g.1 vwCl (zw g ad sh μ) H → va_D A (zw g ad sh μ) → va_S A H0 H locs → lv_has ls nL lv →
      W p l e R s m args below meth c H locs n1 n2 (MQ below (zQ g A Post) args s rc rs A) (F0 m pc ls st)
def zOk (χ : zX) (cc : ByteArray) (own : String) (nL d : Nat) (ret : Option FieldType) : Prop :=
  match χ with
  | (p, l, e, R, s, m, args, below, meth, c, g, A, H0, Post, rc, rs) => p.tables.exec = Jvm.exec ∧ c.code = cc ∧ c.maxLocals = nL ∧ s.vm.findClass own = some m.cls ∧ (∀ w ∈ lw_g, w.before args s = true) ∧ (∀ w ∈ lw_n, va_Nw w s) ∧
      va_K g.1 vwCl (zT g) s ∧ meth.locks = false ∧ meth.sig.returnType = ret ∧ H0 = s.heap ∧ (∀ q, H0.size ≤ q → A q) ∧ R.frames = d ∧ 36 * d ≤ R.locals ∧ rc ≤ R.cells ∧ rs ≤ R.slots
def zRet (χ : zX) (ad : Nat → Nat) (sh : List zE) (Po : Option Value → zMem → Prop) : Prop :=
  match χ with
  | (p, l, e, R, s, m, args, below, meth, c, g, A, H0, Post, rc, rs) => rc = 0 ∧ rs = 0 ∧ ∀ v μ, Po v μ → Post v ad sh μ
-- a contract
def zA (ad : Nat → Nat) (n sz : Nat) : Nat → Prop := fun q => (∃ k, k < n ∧ ad k = q) ∨ sz ≤ q
def zU (g : zG) (ad : Nat → Nat) (sh : List zE) (μ : zMem) (U : State) : Prop := va_P g.1 vwCl (zw g ad sh μ) U.heap ∧ va_K g.1 vwCl (zT g) U ∧ va_D (fun _ => True) (zw g ad sh μ) ∧ ∀ w ∈ lw_n, va_Nw w U
def zCon (l : Launch) (g : zG) (y : MethodName) (cc : ByteArray) (maxL : Nat) (ret : Option FieldType) (d : Nat) (ad : Nat → Nat) (sh : List zE) (as : List Value) (μ : zMem) (Po : Option Value → zMem → Prop) : Prop :=
  ∀ sz : Nat, Met l y (.code y cc maxL ret :: lw_g) { frames := d, cells := 0, slots := 0, locals := 36 * d } (va_Pc as (fun U => U.heap.size = sz ∧ zU g ad sh μ U))
    (zQ g (zA ad sh.length sz) (fun v ad' sh' μ' => ad' = ad ∧ sh' = sh ∧ Po v μ')) 0 0 (zA ad sh.length sz)
theorem zU_blind {g : zG} {ad : Nat → Nat} {sh : List zE} {μ : zMem} {as : List Value} {sz : Nat} : FrameBlind (va_Pc as (fun U => U.heap.size = sz ∧ zU g ad sh μ U)) := by
  intro a U f mk q
  obtain ⟨q0, q1, qP, qK, qD, qN⟩ := q
  exact ⟨q0, q1, qP, va_K.moved (u := U) (U := U.calling f mk a) (Vm.Alike.refl U.vm) qK, qD, fun w hw => va_Nw.same (u := U) (U := U.calling f mk a) (zn_tab hw) rfl (qN w hw)⟩
theorem zA_D {ad : Nat → Nat} {g : zG} {sh : List zE} {μ : zMem} {sz : Nat} {B : Nat → Prop} (h : va_D B (zw g ad sh μ)) : va_D (zA ad sh.length sz) (zw g ad sh μ) := by
  refine h.weaken (fun k q hq _ => ?_)
  obtain ⟨e, h1, rfl⟩ := zw_inv hq
  exact Or.inl ⟨k, (List.getElem?_eq_some_iff.mp h1).1, rfl⟩
set_option maxHeartbeats 4000000 in
theorem zCon_of {l : Launch} {g : zG} {y : MethodName} {cc : ByteArray} {maxL : Nat} {ret : Option FieldType} {d : Nat} {ad : Nat → Nat} {sh : List zE} {as : List Value} {μ : zMem} {Po : Option Value → zMem → Prop}
    (hpl : plainName y.cls = true) (hlen : (lg_sl as).length ≤ maxL)
    (body : ∀ χ : zX, zOk χ cc y.cls maxL d ret → zRet χ ad sh Po → χ.2.1 = l → χ.2.2.2.2.2.2.2.2.2.2.1 = g → zV χ maxL ad sh 0 0 0 (lv_args 0 as) [] μ) : zCon l g y cc maxL ret d ad sh as μ Po := by
  intro sz
  refine Met.ofW (cc := cc) (maxL := maxL) (ret := ret) hpl rfl ?_
  intro p e s m args below meth c s₁ B hml hv
  obtain ⟨rfl, hsz, hP, hK, hD0, hN⟩ := hv
  have hts := atoms_spec (ws := Cond.code y cc maxL ret :: lw_g) B.pre
  have hown : s.vm.findClass y.cls = some m.cls := findClass_of_methodNamed B.named
  subst hsz
  have hl := lv_entry as (n := maxL) hlen
  rw [lg_entry_eq]
  exact body (p, l, e, _, s, m, _, below, meth, c, g, zA ad sh.length s.heap.size, s.heap, _, 0, 0)
    ⟨B.exec, B.bytes, hml, hown, fun w hw => hts w (List.mem_cons_of_mem _ hw), hN, hK, B.notSynchronized, B.returns, rfl, fun q h => Or.inr h, rfl, Nat.le_refl _, Nat.zero_le _, Nat.zero_le _⟩
    ⟨rfl, rfl, fun v μ' h => ⟨rfl, rfl, h⟩⟩ rfl rfl s.heap [] _ hP (zA_D hD0) va_S.rf hl
