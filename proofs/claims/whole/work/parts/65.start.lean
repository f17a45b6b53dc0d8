def R_law : String := "PigeonMailLaw"
def lw_P (b : Addr) (xs : List Int32) (args : Array Value) (s : State) : Prop := args = #[.ref b] ∧ s.IntsAt b xs ∧ xs.length ≤ 256 ∧ (Jvm.Cond.and given_1 narrow_1).before args s = true
def lw_Q (_ : Array Value) (s : State) (o : Outcome) (t : State) : Prop := o = .returned (some (.int 1)) ∧ Framed s o t [] 600000 7302249
def lw_Z (below : List Frame) (a : Array Value) (s : State) : State → Prop := fun t => ∃ o, t.status = .running ∧ Ended t below o ∧ lw_Q a s o t
/-- what holds at the law's entry: the machine, the code, the tables' words (any of lw_tbl by 'hts w (by decide +kernel)'), the script of L ints xs at the cell b, what the Statement gives of the start (any of its parts by flat_of_before) -/
def lw_At (p : Program) (s : State) (m : MethodId) (meth : Method) (c : Code) (b L : Nat) (xs : Nat → Int32) : Prop :=
  p.tables.exec = Jvm.exec ∧ c.code = code ∧ meth.sig.returnType = ret ∧ c.maxLocals = 4 ∧ s.vm.findClass R_law = some m.cls ∧ (∀ w ∈ lw_tbl, w.before #[Value.ref b] s = true) ∧ va_X b L xs s s.heap ∧ b < s.heap.size ∧ meth.locks = false ∧ (Jvm.Cond.and given_1 narrow_1).before #[Value.ref b] s = true
theorem zW_mono {p : Program} {l : Launch} {e : Env} {R : Room} {s : State} {m : MethodId} {args : Array Value} {below : List Frame} {meth : Method} {c : Code} {H : Heap} {locs : List Loc} {n1 n2 : Nat} {Q Q2 : State → Prop} {g : JFrame} (h : ∀ t, Q t → Q2 t) (k : W p l e R s m args below meth c H locs n1 n2 Q g) : W p l e R s m args below meth c H locs n1 n2 Q2 g := by
  intro T hT X
  obtain ⟨t, a, b⟩ := k T hT X
  exact ⟨t, a, h t b⟩
theorem zsame_new {s t : State} {L : List Loc} {k n k2 n2 : Nat} (h : s.sameButNew t L k n) (hL : ∀ q ∈ L, s.heap.size ≤ q.base) (hk : k ≤ k2) (hn : n ≤ n2) : s.sameButNew t [] k2 n2 := by
  obtain ⟨h1, h2, h3, h4, h5, h6⟩ := h
  refine ⟨h1, h2, Nat.le_trans h3 (Nat.add_le_add_left hk _), h4, Nat.le_trans h5 hn, fun a c hc => ?_⟩
  obtain ⟨c', e1, e2, e3, e4⟩ := h6 a c hc
  refine ⟨c', e1, e2, e3, fun i _ => e4 i (fun hm => ?_)⟩
  have h7 := hL _ hm
  have h8 : a < s.heap.size := (Array.getElem?_eq_some_iff.mp hc).1
  exact absurd h7 (Nat.not_le.mpr h8)
/-- from the entry, for every script of at most 256 ints, the law comes to its end with true -/
theorem whole_start {p : Program} {e : Env} {s : State} {m : MethodId} {below : List Frame} {meth : Method} {c : Code} (l : Launch) (hflags : l.flags = flags0) {b L : Nat} {xs : Nat → Int32} (hL : L ≤ 256) (C0 : lw_At p s m meth c b L xs) : W p l e room_1 s m #[Value.ref b] below meth c s.heap [] 0 0 (lw_Z below #[Value.ref b] s) (entryFrame m ([Value.ref b] : List Value).toArray 4) := by
  obtain ⟨hx, hb, hr, hml, hown, hts, hX, hbl, hlk, hgv⟩ := C0
  have htg : ∀ w ∈ lw_g, w.before #[Value.ref b] s = true := fun w hw => hts w (List.mem_filter.mp hw).1
  obtain ⟨k0, i0, hK0⟩ := u_known (C := RX0) (T := TX0) (N := 1) (n := 1) htg in_X0 (htg (.instantiable RX0 1) (zg_in 248 (by decide +kernel) rfl))
  obtain ⟨k1, i1, hK1⟩ := u_known (C := RX1) (T := TX1) (N := 3) (n := 3) htg in_X1 (htg (.instantiable RX1 3) (zg_in 143 (by decide +kernel) rfl))
  obtain ⟨k2, i2, hK2⟩ := u_known (C := RX2) (T := TX2) (N := 8) (n := 8) htg in_X2 (htg (.instantiable RX2 8) (zg_in 161 (by decide +kernel) rfl))
  obtain ⟨k3, i3, hK3⟩ := u_known (C := RX3) (T := TX3) (N := 3) (n := 3) htg in_X3 (htg (.instantiable RX3 3) (zg_in 195 (by decide +kernel) rfl))
  obtain ⟨k4, i4, hK4⟩ := u_known (C := RX4) (T := TX4) (N := 9) (n := 9) htg in_X4 (htg (.instantiable RX4 9) (zg_in 71 (by decide +kernel) rfl))
  obtain ⟨k5, i5, hK5⟩ := u_known (C := RX5) (T := TX5) (N := 3) (n := 3) htg in_X5 (htg (.instantiable RX5 3) (zg_in 65 (by decide +kernel) rfl))
  obtain ⟨k6, i6, hK6⟩ := u_known (C := RX6) (T := TX6) (N := 2) (n := 2) htg in_X6 (htg (.instantiable RX6 2) (zg_in 201 (by decide +kernel) rfl))
  obtain ⟨k7, i7, hK7⟩ := u_known (C := RX7) (T := TX7) (N := 3) (n := 3) htg in_X7 (htg (.instantiable RX7 3) (zg_in 230 (by decide +kernel) rfl))
  obtain ⟨k8, i8, hK8⟩ := u_known (C := RX8) (T := TX8) (N := 10) (n := 10) htg in_X8 (htg (.instantiable RX8 10) (zg_in 57 (by decide +kernel) rfl))
  obtain ⟨k9, i9, hK9⟩ := u_known (C := RX9) (T := TX9) (N := 34) (n := 34) htg in_X9 (htg (.instantiable RX9 34) (zg_in 729 (by decide +kernel) rfl))
  obtain ⟨dC, dI, hKc⟩ : ∃ (dC : Nat → ClassId) (dI : Nat → Nat → Nat), ∀ (k : Nat) (q : vw_C), vwCl[k]? = some q → u_Kn s q.1 q.2.1 q.2.2 (dC k) (dI k) := by
    refine ⟨fun k => if k = 0 then k0 else if k = 1 then k1 else if k = 2 then k2 else if k = 3 then k3 else if k = 4 then k4 else if k = 5 then k5 else if k = 6 then k6 else if k = 7 then k7 else if k = 8 then k8 else k9, fun k => if k = 0 then i0 else if k = 1 then i1 else if k = 2 then i2 else if k = 3 then i3 else if k = 4 then i4 else if k = 5 then i5 else if k = 6 then i6 else if k = 7 then i7 else if k = 8 then i8 else i9, ?_⟩
    intro k q hq
    match k, hq with
    | 0, hq => cases hq; exact hK0
    | 1, hq => cases hq; exact hK1
    | 2, hq => cases hq; exact hK2
    | 3, hq => cases hq; exact hK3
    | 4, hq => cases hq; exact hK4
    | 5, hq => cases hq; exact hK5
    | 6, hq => cases hq; exact hK6
    | 7, hq => cases hq; exact hK7
    | 8, hq => cases hq; exact hK8
    | 9, hq => cases hq; exact hK9
    | k + 10, hq => simp [vwCl] at hq
  obtain ⟨cI, kI, compI, hfI, hkI, hdI⟩ := Cond.arrayClass_spec (htg (.arrayClass .int) (zg_in 128 (by decide +kernel) rfl))
  obtain ⟨cZ, kZ, compZ, hfZ, hkZ, hdZ⟩ := Cond.arrayClass_spec (htg (.arrayClass .boolean) (zg_in 246 (by decide +kernel) rfl))
  have hK : va_K (dC, dI) vwCl [(cI, .int), (cZ, .boolean)] s := by
    refine ⟨hKc, fun k q hq => ?_⟩
    match k, hq with
    | 0, hq => cases hq; exact ⟨fun n z => ⟨fun k h => (by cases h), kI, hkI, compI, hdI⟩, hfI⟩
    | 1, hq => cases hq; exact ⟨fun n z => ⟨fun k h => (by cases h), kZ, hkZ, compZ, hdZ⟩, hfZ⟩
    | k + 2, hq => simp at hq
  have hV := law_begin (χ := (p, l, e, room_1, s, m, #[Value.ref b], below, meth, c, ((dC, dI), cI, cZ), (fun q : Nat => s.heap.size ≤ q), s.heap, (fun v _ _ _ => v = some (Value.int 1)), 56, 1213)) (la := l) (g0 := ((dC, dI), cI, cZ)) (b := b) (L := L) (xs := xs)
    ⟨hx, hb, hml, hown, htg, fun w hw => va_Nw.of (zn_tab hw) (hts w (List.mem_filter.mp hw).1), hK, hlk, hr, rfl, fun q h => h, rfl, Nat.le_of_ble_eq_true rfl, Nat.le_of_ble_eq_true rfl, Nat.le_of_ble_eq_true rfl⟩ rfl rfl rfl ⟨hX, hbl, Nat.not_le.mpr hbl⟩ hL (fun _ _ _ => rfl)
  have hl := lv_entry ([.ref b]) (n := 4) (Nat.le_of_ble_eq_true rfl)
  rw [lg_entry_eq]
  refine zW_mono (fun t ht => ?_) (hV s.heap [] _ (fun k q h => by simp [zw] at h) ⟨fun i j p q h => by simp [zw] at h, fun k q h => by simp [zw] at h⟩ va_S.rf hl)
  obtain ⟨o, h1, h2, ⟨⟨v, ad, sh, μ, hv, hp, -, -⟩, -⟩, Lc, hfe, hLc⟩ := ht
  refine ⟨o, h1, h2, by rw [hv, hp], hfe.1, hfe.2.1, zsame_new hfe.2.2 hLc (Nat.le_of_ble_eq_true rfl) (Nat.le_of_ble_eq_true rfl)⟩
