-- bits of small numbers, counts by loops
theorem zb_or (a b : Nat) : zi (a : Int) ||| zi (b : Int) = zi ((a ||| b : Nat) : Int) := by
  rw [zi_nat, zi_nat, zi_nat]
  apply Int32.toBitVec_inj.mp
  show BitVec.ofNat 32 a ||| BitVec.ofNat 32 b = BitVec.ofNat 32 (a ||| b)
  exact BitVec.ofNat_or.symm
theorem zb_and (a b : Nat) : zi (a : Int) &&& zi (b : Int) = zi ((a &&& b : Nat) : Int) := by
  rw [zi_nat, zi_nat, zi_nat]
  apply Int32.toBitVec_inj.mp
  show BitVec.ofNat 32 a &&& BitVec.ofNat 32 b = BitVec.ofNat 32 (a &&& b)
  exact BitVec.ofNat_and.symm
theorem zb_shl : ∀ l : Nat, l < 16 → zi 1 <<< (zi (l : Int) &&& 31) = zi ((2 ^ l : Nat) : Int) := by decide +kernel
def zwho (fa : Nat → Int) (f : Int) : Nat → Nat
  | 0 => 0
  | l + 1 => if fa l = f then zwho fa f l ||| 2 ^ l else zwho fa f l
theorem z_iincN {χ : zX} {cc : ByteArray} {own : String} {nL d : Nat} {ret : Option FieldType} {ad : Nat → Nat} {sh : List zE} {n1 n2 pc : Nat} {lv : List (Nat × Value)} {st : List Value} {μ : zMem} {i a : Nat} {lv' : List (Nat × Value)} (K : zOk χ cc own nL d ret) (dg : decode cc pc = .ok (.iinc i 1, 3)) (h : zlu i lv = some (.int (zi (a : Int)))) (hi : i < nL) (hv : zst1 i (.int (zi ((a + 1 : Nat) : Int))) lv = lv')
    (kk : zV χ nL ad sh n1 n2 (pc + 3) lv' st μ) : zV χ nL ad sh n1 n2 pc lv st μ := z_iinc K dg h hi hv kk
