theorem zl_rg (x : Int64) : zR8 x.toInt := ⟨by have := Int64.le_toInt x; omega, by have := Int64.toInt_lt x; omega⟩
section ZL
variable {χ : zX} {cc : ByteArray} {own : String} {nL d : Nat} {ret : Option FieldType} {ad : Nat → Nat} {sh : List zE} {n1 n2 pc : Nat} {μ : zMem} {lv : List (Nat × Value)} {st : List Value}
theorem z_same {r : Int32} {off : Int} {tgt : Nat} (K : zOk χ cc own nL d ret) (dg : decode cc pc = .ok (.if_icmp .eq off, 3)) (hg : (pc : Int) + off = (tgt : Int)) (kk : zV χ nL ad sh n1 n2 tgt lv st μ) : zV χ nL ad sh n1 n2 pc lv (.int r :: .int r :: st) μ := by
  rw [zi_of r]
  exact z_icmpeq K dg hg (zi_rg r) (zi_rg r) (fun _ => kk) (fun h => absurd rfl h)
theorem z_sameL {r : Int64} (K : zOk χ cc own nL d ret) (dg : decode cc pc = .ok (.lcmp, 1)) (kk : zV χ nL ad sh n1 n2 (pc + 1) lv (.int (zi 0) :: st) μ) : zV χ nL ad sh n1 n2 pc lv (.long r :: .long r :: st) μ := by
  rw [zl_of r]
  refine z_lcmp K dg (zl_rg r) (zl_rg r) ?_
  rw [show zc r.toInt r.toInt = 0 by unfold zc; rw [if_neg (by omega), if_pos rfl]]
  exact kk
theorem z_topl {x : Int64} (kk : zV χ nL ad sh n1 n2 pc lv (.long (zl x.toInt) :: st) μ) : zV χ nL ad sh n1 n2 pc lv (.long x :: st) μ := by
  rw [← zl_of] at kk
  exact kk
end ZL
/-- a long out of two ints of the script -/
def zlo (a b : Int) : Int64 := (zl a <<< ((zi 32).toInt64 &&& 63)) ||| (zl b &&& zl 4294967295)
set_option maxHeartbeats 4000000 in
theorem law_c0 {χ : zX} {la : Launch} {g0 : zG} {ad : Nat → Nat} {b L i : Nat} {xs : Nat → Int32} {μ : zMem} (K : zOk χ cL_law RL 4 11 (some .boolean)) (hrc : zrcs χ = (56, 1213)) (hl1 : χ.2.1 = la) (hg1 : χ.2.2.2.2.2.2.2.2.2.2.1 = g0) (X : zSx χ b L xs) (hL : L ≤ 256) (hi : i + 4 ≤ L) (hI : zInv μ) (kk : ∀ ν, zInv ν → zV χ 4 ad zSH 56 1213 990 [(0, .ref b), (1, .ref (ad 0)), (2, .ref (ad 39)), (3, .int (zi ((i : Nat) : Int)))] [] ν) : zV χ 4 ad zSH 56 1213 164 [(0, .ref b), (1, .ref (ad 0)), (2, .ref (ad 39)), (3, .int (zi ((i : Nat) : Int)))] [] μ := by
  refine z_aload_n K dL_law_164 rfl ?_
  refine z_aload_n K dL_law_165 rfl ?_
  refine z_iload_n K dL_law_166 rfl ?_
  refine z_iconst K dL_law_167 ?_
  refine z_iadd K dL_law_168 ?_
  refine z_sld K X dL_law_169 (i + 1) (by omega) ⟨by omega, by omega⟩ ?_
  obtain ⟨Po1, C1, hP⟩ := st_write la g0 ad hI ((xs (i + 1)).toInt) (zi_rg _)
  refine z_callVG K hl1 hg1 (kb := 0) (As := [.int (zi ((xs (i + 1)).toInt))]) (rest := []) C1 (by decide) lk_L_13 cd_X8_write rfl rfl rfl rfl (Nat.le_of_ble_eq_true rfl) dL_law_170 (by rw [hrc]; exact ⟨Nat.le_refl _, Nat.le_refl _⟩) (fun v ν hv => ?_)
  obtain ⟨r, Po2, rfl, C2, hQ⟩ := hP v ν hv
  show zV χ 4 ad zSH 56 1213 173 [(0, .ref b), (1, .ref (ad 0)), (2, .ref (ad 39)), (3, .int (zi ((i : Nat) : Int)))] [.int r] ν
  refine z_aload_n K dL_law_173 rfl ?_
  refine z_aload_n K dL_law_174 rfl ?_
  refine z_iload_n K dL_law_175 rfl ?_
  refine z_iconst K dL_law_176 ?_
  refine z_iadd K dL_law_177 ?_
  refine z_sld K X dL_law_178 (i + 1) (by omega) ⟨by omega, by omega⟩ ?_
  refine z_callVG K hl1 hg1 (kb := 39) (As := [.int (zi ((xs (i + 1)).toInt))]) (rest := [.int r]) C2 (by decide) lk_L_17 cd_X9_write rfl rfl rfl rfl (Nat.le_of_ble_eq_true rfl) dL_law_179 (by rw [hrc]; exact ⟨Nat.le_refl _, Nat.le_refl _⟩) (fun v2 ν2 hv2 => ?_)
  obtain ⟨rfl, hI2⟩ := hQ v2 ν2 hv2
  show zV χ 4 ad zSH 56 1213 182 [(0, .ref b), (1, .ref (ad 0)), (2, .ref (ad 39)), (3, .int (zi ((i : Nat) : Int)))] [.int r, .int r] ν2
  refine z_same (tgt := 990) K dL_law_182 (by decide) ?_
  exact kk ν2 hI2
set_option maxHeartbeats 4000000 in
theorem law_c1 {χ : zX} {la : Launch} {g0 : zG} {ad : Nat → Nat} {b L i : Nat} {xs : Nat → Int32} {μ : zMem} (K : zOk χ cL_law RL 4 11 (some .boolean)) (hrc : zrcs χ = (56, 1213)) (hl1 : χ.2.1 = la) (hg1 : χ.2.2.2.2.2.2.2.2.2.2.1 = g0) (X : zSx χ b L xs) (hL : L ≤ 256) (hi : i + 4 ≤ L) (hI : zInv μ) (kk : ∀ ν, zInv ν → zV χ 4 ad zSH 56 1213 990 [(0, .ref b), (1, .ref (ad 0)), (2, .ref (ad 39)), (3, .int (zi ((i : Nat) : Int)))] [] ν) : zV χ 4 ad zSH 56 1213 187 [(0, .ref b), (1, .ref (ad 0)), (2, .ref (ad 39)), (3, .int (zi ((i : Nat) : Int)))] [] μ := by
  refine z_aload_n K dL_law_187 rfl ?_
  obtain ⟨Po1, C1, hP⟩ := st_wipe la g0 ad hI  
  refine z_callVG K hl1 hg1 (kb := 0) (As := []) (rest := []) C1 (by decide) lk_L_18 cd_X8_wipe rfl rfl rfl rfl (Nat.le_of_ble_eq_true rfl) dL_law_188 (by rw [hrc]; exact ⟨Nat.le_refl _, Nat.le_refl _⟩) (fun v ν hv => ?_)
  obtain ⟨r, Po2, rfl, C2, hQ⟩ := hP v ν hv
  show zV χ 4 ad zSH 56 1213 191 [(0, .ref b), (1, .ref (ad 0)), (2, .ref (ad 39)), (3, .int (zi ((i : Nat) : Int)))] [.int r] ν
  refine z_aload_n K dL_law_191 rfl ?_
  refine z_callVG K hl1 hg1 (kb := 39) (As := []) (rest := [.int r]) C2 (by decide) lk_L_22 cd_X9_wipe rfl rfl rfl rfl (Nat.le_of_ble_eq_true rfl) dL_law_192 (by rw [hrc]; exact ⟨Nat.le_refl _, Nat.le_refl _⟩) (fun v2 ν2 hv2 => ?_)
  obtain ⟨rfl, hI2⟩ := hQ v2 ν2 hv2
  show zV χ 4 ad zSH 56 1213 195 [(0, .ref b), (1, .ref (ad 0)), (2, .ref (ad 39)), (3, .int (zi ((i : Nat) : Int)))] [.int r, .int r] ν2
  refine z_same (tgt := 990) K dL_law_195 (by decide) ?_
  exact kk ν2 hI2
set_option maxHeartbeats 4000000 in
theorem law_c2 {χ : zX} {la : Launch} {g0 : zG} {ad : Nat → Nat} {b L i : Nat} {xs : Nat → Int32} {μ : zMem} (K : zOk χ cL_law RL 4 11 (some .boolean)) (hrc : zrcs χ = (56, 1213)) (hl1 : χ.2.1 = la) (hg1 : χ.2.2.2.2.2.2.2.2.2.2.1 = g0) (X : zSx χ b L xs) (hL : L ≤ 256) (hi : i + 4 ≤ L) (hI : zInv μ) (kk : ∀ ν, zInv ν → zV χ 4 ad zSH 56 1213 990 [(0, .ref b), (1, .ref (ad 0)), (2, .ref (ad 39)), (3, .int (zi ((i : Nat) : Int)))] [] ν) : zV χ 4 ad zSH 56 1213 200 [(0, .ref b), (1, .ref (ad 0)), (2, .ref (ad 39)), (3, .int (zi ((i : Nat) : Int)))] [] μ := by
  refine z_aload_n K dL_law_200 rfl ?_
  obtain ⟨Po1, C1, hP⟩ := st_fault la g0 ad hI  
  refine z_callVG K hl1 hg1 (kb := 0) (As := []) (rest := []) C1 (by decide) lk_L_23 cd_X8_fault rfl rfl rfl rfl (Nat.le_of_ble_eq_true rfl) dL_law_201 (by rw [hrc]; exact ⟨Nat.le_refl _, Nat.le_refl _⟩) (fun v ν hv => ?_)
  obtain ⟨r, Po2, rfl, C2, hQ⟩ := hP v ν hv
  show zV χ 4 ad zSH 56 1213 204 [(0, .ref b), (1, .ref (ad 0)), (2, .ref (ad 39)), (3, .int (zi ((i : Nat) : Int)))] [.int r] ν
  refine z_aload_n K dL_law_204 rfl ?_
  refine z_callVG K hl1 hg1 (kb := 39) (As := []) (rest := [.int r]) C2 (by decide) lk_L_26 cd_X9_fault rfl rfl rfl rfl (Nat.le_of_ble_eq_true rfl) dL_law_205 (by rw [hrc]; exact ⟨Nat.le_refl _, Nat.le_refl _⟩) (fun v2 ν2 hv2 => ?_)
  obtain ⟨rfl, hI2⟩ := hQ v2 ν2 hv2
  show zV χ 4 ad zSH 56 1213 208 [(0, .ref b), (1, .ref (ad 0)), (2, .ref (ad 39)), (3, .int (zi ((i : Nat) : Int)))] [.int r, .int r] ν2
  refine z_same (tgt := 990) K dL_law_208 (by decide) ?_
  exact kk ν2 hI2
set_option maxHeartbeats 4000000 in
theorem law_c3 {χ : zX} {la : Launch} {g0 : zG} {ad : Nat → Nat} {b L i : Nat} {xs : Nat → Int32} {μ : zMem} (K : zOk χ cL_law RL 4 11 (some .boolean)) (hrc : zrcs χ = (56, 1213)) (hl1 : χ.2.1 = la) (hg1 : χ.2.2.2.2.2.2.2.2.2.2.1 = g0) (X : zSx χ b L xs) (hL : L ≤ 256) (hi : i + 4 ≤ L) (hI : zInv μ) (kk : ∀ ν, zInv ν → zV χ 4 ad zSH 56 1213 990 [(0, .ref b), (1, .ref (ad 0)), (2, .ref (ad 39)), (3, .int (zi ((i : Nat) : Int)))] [] ν) : zV χ 4 ad zSH 56 1213 213 [(0, .ref b), (1, .ref (ad 0)), (2, .ref (ad 39)), (3, .int (zi ((i : Nat) : Int)))] [] μ := by
  refine z_aload_n K dL_law_213 rfl ?_
  obtain ⟨Po1, C1, hP⟩ := st_room la g0 ad hI  
  refine z_callVG K hl1 hg1 (kb := 0) (As := []) (rest := []) C1 (by decide) lk_L_27 cd_X8_room rfl rfl rfl rfl (Nat.le_of_ble_eq_true rfl) dL_law_214 (by rw [hrc]; exact ⟨Nat.le_refl _, Nat.le_refl _⟩) (fun v ν hv => ?_)
  obtain ⟨r, Po2, rfl, C2, hQ⟩ := hP v ν hv
  show zV χ 4 ad zSH 56 1213 217 [(0, .ref b), (1, .ref (ad 0)), (2, .ref (ad 39)), (3, .int (zi ((i : Nat) : Int)))] [.int r] ν
  refine z_aload_n K dL_law_217 rfl ?_
  refine z_callVG K hl1 hg1 (kb := 39) (As := []) (rest := [.int r]) C2 (by decide) lk_L_30 cd_X9_room rfl rfl rfl rfl (Nat.le_of_ble_eq_true rfl) dL_law_218 (by rw [hrc]; exact ⟨Nat.le_refl _, Nat.le_refl _⟩) (fun v2 ν2 hv2 => ?_)
  obtain ⟨rfl, hI2⟩ := hQ v2 ν2 hv2
  show zV χ 4 ad zSH 56 1213 221 [(0, .ref b), (1, .ref (ad 0)), (2, .ref (ad 39)), (3, .int (zi ((i : Nat) : Int)))] [.int r, .int r] ν2
  refine z_same (tgt := 990) K dL_law_221 (by decide) ?_
  exact kk ν2 hI2
set_option maxHeartbeats 4000000 in
theorem law_c4 {χ : zX} {la : Launch} {g0 : zG} {ad : Nat → Nat} {b L i : Nat} {xs : Nat → Int32} {μ : zMem} (K : zOk χ cL_law RL 4 11 (some .boolean)) (hrc : zrcs χ = (56, 1213)) (hl1 : χ.2.1 = la) (hg1 : χ.2.2.2.2.2.2.2.2.2.2.1 = g0) (X : zSx χ b L xs) (hL : L ≤ 256) (hi : i + 4 ≤ L) (hI : zInv μ) (kk : ∀ ν, zInv ν → zV χ 4 ad zSH 56 1213 990 [(0, .ref b), (1, .ref (ad 0)), (2, .ref (ad 39)), (3, .int (zi ((i : Nat) : Int)))] [] ν) : zV χ 4 ad zSH 56 1213 226 [(0, .ref b), (1, .ref (ad 0)), (2, .ref (ad 39)), (3, .int (zi ((i : Nat) : Int)))] [] μ := by
  refine z_aload_n K dL_law_226 rfl ?_
  refine z_aload_n K dL_law_227 rfl ?_
  refine z_iload_n K dL_law_228 rfl ?_
  refine z_iconst K dL_law_229 ?_
  refine z_iadd K dL_law_230 ?_
  refine z_sld K X dL_law_231 (i + 1) (by omega) ⟨by omega, by omega⟩ ?_
  obtain ⟨Po1, C1, hP⟩ := st_about la g0 ad hI ((xs (i + 1)).toInt) (zi_rg _)
  refine z_callVG K hl1 hg1 (kb := 0) (As := [.int (zi ((xs (i + 1)).toInt))]) (rest := []) C1 (by decide) lk_L_31 cd_X8_about rfl rfl rfl rfl (Nat.le_of_ble_eq_true rfl) dL_law_232 (by rw [hrc]; exact ⟨Nat.le_refl _, Nat.le_refl _⟩) (fun v ν hv => ?_)
  obtain ⟨r, Po2, rfl, C2, hQ⟩ := hP v ν hv
  show zV χ 4 ad zSH 56 1213 235 [(0, .ref b), (1, .ref (ad 0)), (2, .ref (ad 39)), (3, .int (zi ((i : Nat) : Int)))] [.int r] ν
  refine z_aload_n K dL_law_235 rfl ?_
  refine z_aload_n K dL_law_236 rfl ?_
  refine z_iload_n K dL_law_237 rfl ?_
  refine z_iconst K dL_law_238 ?_
  refine z_iadd K dL_law_239 ?_
  refine z_sld K X dL_law_240 (i + 1) (by omega) ⟨by omega, by omega⟩ ?_
  refine z_callVG K hl1 hg1 (kb := 39) (As := [.int (zi ((xs (i + 1)).toInt))]) (rest := [.int r]) C2 (by decide) lk_L_34 cd_X9_about rfl rfl rfl rfl (Nat.le_of_ble_eq_true rfl) dL_law_241 (by rw [hrc]; exact ⟨Nat.le_refl _, Nat.le_refl _⟩) (fun v2 ν2 hv2 => ?_)
  obtain ⟨rfl, hI2⟩ := hQ v2 ν2 hv2
  show zV χ 4 ad zSH 56 1213 244 [(0, .ref b), (1, .ref (ad 0)), (2, .ref (ad 39)), (3, .int (zi ((i : Nat) : Int)))] [.int r, .int r] ν2
  refine z_same (tgt := 990) K dL_law_244 (by decide) ?_
  exact kk ν2 hI2
set_option maxHeartbeats 4000000 in
theorem law_c5 {χ : zX} {la : Launch} {g0 : zG} {ad : Nat → Nat} {b L i : Nat} {xs : Nat → Int32} {μ : zMem} (K : zOk χ cL_law RL 4 11 (some .boolean)) (hrc : zrcs χ = (56, 1213)) (hl1 : χ.2.1 = la) (hg1 : χ.2.2.2.2.2.2.2.2.2.2.1 = g0) (X : zSx χ b L xs) (hL : L ≤ 256) (hi : i + 4 ≤ L) (hI : zInv μ) (kk : ∀ ν, zInv ν → zV χ 4 ad zSH 56 1213 990 [(0, .ref b), (1, .ref (ad 0)), (2, .ref (ad 39)), (3, .int (zi ((i : Nat) : Int)))] [] ν) : zV χ 4 ad zSH 56 1213 249 [(0, .ref b), (1, .ref (ad 0)), (2, .ref (ad 39)), (3, .int (zi ((i : Nat) : Int)))] [] μ := by
  refine z_aload_n K dL_law_249 rfl ?_
  refine z_aload_n K dL_law_250 rfl ?_
  refine z_iload_n K dL_law_251 rfl ?_
  refine z_iconst K dL_law_252 ?_
  refine z_iadd K dL_law_253 ?_
  refine z_sld K X dL_law_254 (i + 1) (by omega) ⟨by omega, by omega⟩ ?_
  refine z_aload_n K dL_law_255 rfl ?_
  refine z_iload_n K dL_law_256 rfl ?_
  refine z_iconst K dL_law_257 ?_
  refine z_iadd K dL_law_258 ?_
  refine z_sld K X dL_law_259 (i + 2) (by omega) ⟨by omega, by omega⟩ ?_
  obtain ⟨Po1, C1, hP⟩ := st_letter la g0 ad hI ((xs (i + 1)).toInt) ((xs (i + 2)).toInt) (zi_rg _) (zi_rg _)
  refine z_callVG K hl1 hg1 (kb := 0) (As := [.int (zi ((xs (i + 1)).toInt)), .int (zi ((xs (i + 2)).toInt))]) (rest := []) C1 (by decide) lk_L_35 cd_X8_letter rfl rfl rfl rfl (Nat.le_of_ble_eq_true rfl) dL_law_260 (by rw [hrc]; exact ⟨Nat.le_refl _, Nat.le_refl _⟩) (fun v ν hv => ?_)
  obtain ⟨r, Po2, rfl, C2, hQ⟩ := hP v ν hv
  show zV χ 4 ad zSH 56 1213 263 [(0, .ref b), (1, .ref (ad 0)), (2, .ref (ad 39)), (3, .int (zi ((i : Nat) : Int)))] [.int r] ν
  refine z_aload_n K dL_law_263 rfl ?_
  refine z_aload_n K dL_law_264 rfl ?_
  refine z_iload_n K dL_law_265 rfl ?_
  refine z_iconst K dL_law_266 ?_
  refine z_iadd K dL_law_267 ?_
  refine z_sld K X dL_law_268 (i + 1) (by omega) ⟨by omega, by omega⟩ ?_
  refine z_aload_n K dL_law_269 rfl ?_
  refine z_iload_n K dL_law_270 rfl ?_
  refine z_iconst K dL_law_271 ?_
  refine z_iadd K dL_law_272 ?_
  refine z_sld K X dL_law_273 (i + 2) (by omega) ⟨by omega, by omega⟩ ?_
  refine z_callVG K hl1 hg1 (kb := 39) (As := [.int (zi ((xs (i + 1)).toInt)), .int (zi ((xs (i + 2)).toInt))]) (rest := [.int r]) C2 (by decide) lk_L_39 cd_X9_letter rfl rfl rfl rfl (Nat.le_of_ble_eq_true rfl) dL_law_274 (by rw [hrc]; exact ⟨Nat.le_refl _, Nat.le_refl _⟩) (fun v2 ν2 hv2 => ?_)
  obtain ⟨rfl, hI2⟩ := hQ v2 ν2 hv2
  show zV χ 4 ad zSH 56 1213 277 [(0, .ref b), (1, .ref (ad 0)), (2, .ref (ad 39)), (3, .int (zi ((i : Nat) : Int)))] [.int r, .int r] ν2
  refine z_same (tgt := 990) K dL_law_277 (by decide) ?_
  exact kk ν2 hI2
set_option maxHeartbeats 4000000 in
theorem law_c6 {χ : zX} {la : Launch} {g0 : zG} {ad : Nat → Nat} {b L i : Nat} {xs : Nat → Int32} {μ : zMem} (K : zOk χ cL_law RL 4 11 (some .boolean)) (hrc : zrcs χ = (56, 1213)) (hl1 : χ.2.1 = la) (hg1 : χ.2.2.2.2.2.2.2.2.2.2.1 = g0) (X : zSx χ b L xs) (hL : L ≤ 256) (hi : i + 4 ≤ L) (hI : zInv μ) (kk : ∀ ν, zInv ν → zV χ 4 ad zSH 56 1213 990 [(0, .ref b), (1, .ref (ad 0)), (2, .ref (ad 39)), (3, .int (zi ((i : Nat) : Int)))] [] ν) : zV χ 4 ad zSH 56 1213 282 [(0, .ref b), (1, .ref (ad 0)), (2, .ref (ad 39)), (3, .int (zi ((i : Nat) : Int)))] [] μ := by
  refine z_aload_n K dL_law_282 rfl ?_
  refine z_aload_n K dL_law_283 rfl ?_
  refine z_iload_n K dL_law_284 rfl ?_
  refine z_iconst K dL_law_285 ?_
  refine z_iadd K dL_law_286 ?_
  refine z_sld K X dL_law_287 (i + 1) (by omega) ⟨by omega, by omega⟩ ?_
  refine z_aload_n K dL_law_288 rfl ?_
  refine z_iload_n K dL_law_289 rfl ?_
  refine z_iconst K dL_law_290 ?_
  refine z_iadd K dL_law_291 ?_
  refine z_sld K X dL_law_292 (i + 2) (by omega) ⟨by omega, by omega⟩ ?_
  obtain ⟨Po1, C1, hP⟩ := st_clerk la g0 ad hI ((xs (i + 1)).toInt) ((xs (i + 2)).toInt) (zi_rg _) (zi_rg _)
  refine z_callVG K hl1 hg1 (kb := 0) (As := [.int (zi ((xs (i + 1)).toInt)), .int (zi ((xs (i + 2)).toInt))]) (rest := []) C1 (by decide) lk_L_40 cd_X8_clerk rfl rfl rfl rfl (Nat.le_of_ble_eq_true rfl) dL_law_293 (by rw [hrc]; exact ⟨Nat.le_refl _, Nat.le_refl _⟩) (fun v ν hv => ?_)
  obtain ⟨r, Po2, rfl, C2, hQ⟩ := hP v ν hv
  show zV χ 4 ad zSH 56 1213 296 [(0, .ref b), (1, .ref (ad 0)), (2, .ref (ad 39)), (3, .int (zi ((i : Nat) : Int)))] [.int r] ν
  refine z_aload_n K dL_law_296 rfl ?_
  refine z_aload_n K dL_law_297 rfl ?_
  refine z_iload_n K dL_law_298 rfl ?_
  refine z_iconst K dL_law_299 ?_
  refine z_iadd K dL_law_300 ?_
  refine z_sld K X dL_law_301 (i + 1) (by omega) ⟨by omega, by omega⟩ ?_
  refine z_aload_n K dL_law_302 rfl ?_
  refine z_iload_n K dL_law_303 rfl ?_
  refine z_iconst K dL_law_304 ?_
  refine z_iadd K dL_law_305 ?_
  refine z_sld K X dL_law_306 (i + 2) (by omega) ⟨by omega, by omega⟩ ?_
  refine z_callVG K hl1 hg1 (kb := 39) (As := [.int (zi ((xs (i + 1)).toInt)), .int (zi ((xs (i + 2)).toInt))]) (rest := [.int r]) C2 (by decide) lk_L_43 cd_X9_clerk rfl rfl rfl rfl (Nat.le_of_ble_eq_true rfl) dL_law_307 (by rw [hrc]; exact ⟨Nat.le_refl _, Nat.le_refl _⟩) (fun v2 ν2 hv2 => ?_)
  obtain ⟨rfl, hI2⟩ := hQ v2 ν2 hv2
  show zV χ 4 ad zSH 56 1213 310 [(0, .ref b), (1, .ref (ad 0)), (2, .ref (ad 39)), (3, .int (zi ((i : Nat) : Int)))] [.int r, .int r] ν2
  refine z_same (tgt := 990) K dL_law_310 (by decide) ?_
  exact kk ν2 hI2
set_option maxHeartbeats 4000000 in
theorem law_c7 {χ : zX} {la : Launch} {g0 : zG} {ad : Nat → Nat} {b L i : Nat} {xs : Nat → Int32} {μ : zMem} (K : zOk χ cL_law RL 4 11 (some .boolean)) (hrc : zrcs χ = (56, 1213)) (hl1 : χ.2.1 = la) (hg1 : χ.2.2.2.2.2.2.2.2.2.2.1 = g0) (X : zSx χ b L xs) (hL : L ≤ 256) (hi : i + 4 ≤ L) (hI : zInv μ) (kk : ∀ ν, zInv ν → zV χ 4 ad zSH 56 1213 990 [(0, .ref b), (1, .ref (ad 0)), (2, .ref (ad 39)), (3, .int (zi ((i : Nat) : Int)))] [] ν) : zV χ 4 ad zSH 56 1213 315 [(0, .ref b), (1, .ref (ad 0)), (2, .ref (ad 39)), (3, .int (zi ((i : Nat) : Int)))] [] μ := by
  refine z_aload_n K dL_law_315 rfl ?_
  refine z_aload_n K dL_law_316 rfl ?_
  refine z_iload_n K dL_law_317 rfl ?_
  refine z_iconst K dL_law_318 ?_
  refine z_iadd K dL_law_319 ?_
  refine z_sld K X dL_law_320 (i + 1) (by omega) ⟨by omega, by omega⟩ ?_
  obtain ⟨Po1, C1, hP⟩ := st_hole la g0 ad hI ((xs (i + 1)).toInt) (zi_rg _)
  refine z_callVG K hl1 hg1 (kb := 0) (As := [.int (zi ((xs (i + 1)).toInt))]) (rest := []) C1 (by decide) lk_L_44 cd_X8_hole rfl rfl rfl rfl (Nat.le_of_ble_eq_true rfl) dL_law_321 (by rw [hrc]; exact ⟨Nat.le_refl _, Nat.le_refl _⟩) (fun v ν hv => ?_)
  obtain ⟨r, Po2, rfl, C2, hQ⟩ := hP v ν hv
  show zV χ 4 ad zSH 56 1213 324 [(0, .ref b), (1, .ref (ad 0)), (2, .ref (ad 39)), (3, .int (zi ((i : Nat) : Int)))] [.int r] ν
  refine z_aload_n K dL_law_324 rfl ?_
  refine z_aload_n K dL_law_325 rfl ?_
  refine z_iload_n K dL_law_326 rfl ?_
  refine z_iconst K dL_law_327 ?_
  refine z_iadd K dL_law_328 ?_
  refine z_sld K X dL_law_329 (i + 1) (by omega) ⟨by omega, by omega⟩ ?_
  refine z_callVG K hl1 hg1 (kb := 39) (As := [.int (zi ((xs (i + 1)).toInt))]) (rest := [.int r]) C2 (by decide) lk_L_47 cd_X9_hole rfl rfl rfl rfl (Nat.le_of_ble_eq_true rfl) dL_law_330 (by rw [hrc]; exact ⟨Nat.le_refl _, Nat.le_refl _⟩) (fun v2 ν2 hv2 => ?_)
  obtain ⟨rfl, hI2⟩ := hQ v2 ν2 hv2
  show zV χ 4 ad zSH 56 1213 333 [(0, .ref b), (1, .ref (ad 0)), (2, .ref (ad 39)), (3, .int (zi ((i : Nat) : Int)))] [.int r, .int r] ν2
  refine z_same (tgt := 990) K dL_law_333 (by decide) ?_
  exact kk ν2 hI2
set_option maxHeartbeats 4000000 in
theorem law_c8 {χ : zX} {la : Launch} {g0 : zG} {ad : Nat → Nat} {b L i : Nat} {xs : Nat → Int32} {μ : zMem} (K : zOk χ cL_law RL 4 11 (some .boolean)) (hrc : zrcs χ = (56, 1213)) (hl1 : χ.2.1 = la) (hg1 : χ.2.2.2.2.2.2.2.2.2.2.1 = g0) (X : zSx χ b L xs) (hL : L ≤ 256) (hi : i + 4 ≤ L) (hI : zInv μ) (kk : ∀ ν, zInv ν → zV χ 4 ad zSH 56 1213 990 [(0, .ref b), (1, .ref (ad 0)), (2, .ref (ad 39)), (3, .int (zi ((i : Nat) : Int)))] [] ν) : zV χ 4 ad zSH 56 1213 338 [(0, .ref b), (1, .ref (ad 0)), (2, .ref (ad 39)), (3, .int (zi ((i : Nat) : Int)))] [] μ := by
  refine z_aload_n K dL_law_338 rfl ?_
  obtain ⟨Po1, C1, hP⟩ := st_day la g0 ad hI  
  refine z_callVG K hl1 hg1 (kb := 0) (As := []) (rest := []) C1 (by decide) lk_L_48 cd_X8_day rfl rfl rfl rfl (Nat.le_of_ble_eq_true rfl) dL_law_339 (by rw [hrc]; exact ⟨Nat.le_refl _, Nat.le_refl _⟩) (fun v ν hv => ?_)
  obtain ⟨r, Po2, rfl, C2, hQ⟩ := hP v ν hv
  show zV χ 4 ad zSH 56 1213 342 [(0, .ref b), (1, .ref (ad 0)), (2, .ref (ad 39)), (3, .int (zi ((i : Nat) : Int)))] [.int r] ν
  refine z_aload_n K dL_law_342 rfl ?_
  refine z_callVG K hl1 hg1 (kb := 39) (As := []) (rest := [.int r]) C2 (by decide) lk_L_51 cd_X9_day rfl rfl rfl rfl (Nat.le_of_ble_eq_true rfl) dL_law_343 (by rw [hrc]; exact ⟨Nat.le_refl _, Nat.le_refl _⟩) (fun v2 ν2 hv2 => ?_)
  obtain ⟨rfl, hI2⟩ := hQ v2 ν2 hv2
  show zV χ 4 ad zSH 56 1213 346 [(0, .ref b), (1, .ref (ad 0)), (2, .ref (ad 39)), (3, .int (zi ((i : Nat) : Int)))] [.int r, .int r] ν2
  refine z_same (tgt := 990) K dL_law_346 (by decide) ?_
  exact kk ν2 hI2
set_option maxHeartbeats 4000000 in
theorem law_c9 {χ : zX} {la : Launch} {g0 : zG} {ad : Nat → Nat} {b L i : Nat} {xs : Nat → Int32} {μ : zMem} (K : zOk χ cL_law RL 4 11 (some .boolean)) (hrc : zrcs χ = (56, 1213)) (hl1 : χ.2.1 = la) (hg1 : χ.2.2.2.2.2.2.2.2.2.2.1 = g0) (X : zSx χ b L xs) (hL : L ≤ 256) (hi : i + 4 ≤ L) (hI : zInv μ) (kk : ∀ ν, zInv ν → zV χ 4 ad zSH 56 1213 990 [(0, .ref b), (1, .ref (ad 0)), (2, .ref (ad 39)), (3, .int (zi ((i : Nat) : Int)))] [] ν) : zV χ 4 ad zSH 56 1213 351 [(0, .ref b), (1, .ref (ad 0)), (2, .ref (ad 39)), (3, .int (zi ((i : Nat) : Int)))] [] μ := by
  refine z_aload_n K dL_law_351 rfl ?_
  refine z_aload_n K dL_law_352 rfl ?_
  refine z_iload_n K dL_law_353 rfl ?_
  refine z_iconst K dL_law_354 ?_
  refine z_iadd K dL_law_355 ?_
  refine z_sld K X dL_law_356 (i + 1) (by omega) ⟨by omega, by omega⟩ ?_
  refine z_aload_n K dL_law_357 rfl ?_
  refine z_iload_n K dL_law_358 rfl ?_
  refine z_iconst K dL_law_359 ?_
  refine z_iadd K dL_law_360 ?_
  refine z_sld K X dL_law_361 (i + 2) (by omega) ⟨by omega, by omega⟩ ?_
  obtain ⟨Po1, C1, hP⟩ := st_put la g0 ad hI ((xs (i + 1)).toInt) ((xs (i + 2)).toInt) (zi_rg _) (zi_rg _)
  refine z_callVG K hl1 hg1 (kb := 0) (As := [.int (zi ((xs (i + 1)).toInt)), .int (zi ((xs (i + 2)).toInt))]) (rest := []) C1 (by decide) lk_L_52 cd_X8_put rfl rfl rfl rfl (Nat.le_of_ble_eq_true rfl) dL_law_362 (by rw [hrc]; exact ⟨Nat.le_refl _, Nat.le_refl _⟩) (fun v ν hv => ?_)
  obtain ⟨r, Po2, rfl, C2, hQ⟩ := hP v ν hv
  show zV χ 4 ad zSH 56 1213 365 [(0, .ref b), (1, .ref (ad 0)), (2, .ref (ad 39)), (3, .int (zi ((i : Nat) : Int)))] [.int r] ν
  refine z_aload_n K dL_law_365 rfl ?_
  refine z_aload_n K dL_law_366 rfl ?_
  refine z_iload_n K dL_law_367 rfl ?_
  refine z_iconst K dL_law_368 ?_
  refine z_iadd K dL_law_369 ?_
  refine z_sld K X dL_law_370 (i + 1) (by omega) ⟨by omega, by omega⟩ ?_
  refine z_aload_n K dL_law_371 rfl ?_
  refine z_iload_n K dL_law_372 rfl ?_
  refine z_iconst K dL_law_373 ?_
  refine z_iadd K dL_law_374 ?_
  refine z_sld K X dL_law_375 (i + 2) (by omega) ⟨by omega, by omega⟩ ?_
  refine z_callVG K hl1 hg1 (kb := 39) (As := [.int (zi ((xs (i + 1)).toInt)), .int (zi ((xs (i + 2)).toInt))]) (rest := [.int r]) C2 (by decide) lk_L_55 cd_X9_put rfl rfl rfl rfl (Nat.le_of_ble_eq_true rfl) dL_law_376 (by rw [hrc]; exact ⟨Nat.le_refl _, Nat.le_refl _⟩) (fun v2 ν2 hv2 => ?_)
  obtain ⟨rfl, hI2⟩ := hQ v2 ν2 hv2
  show zV χ 4 ad zSH 56 1213 379 [(0, .ref b), (1, .ref (ad 0)), (2, .ref (ad 39)), (3, .int (zi ((i : Nat) : Int)))] [.int r, .int r] ν2
  refine z_same (tgt := 990) K dL_law_379 (by decide) ?_
  exact kk ν2 hI2
set_option maxHeartbeats 4000000 in
theorem law_c10 {χ : zX} {la : Launch} {g0 : zG} {ad : Nat → Nat} {b L i : Nat} {xs : Nat → Int32} {μ : zMem} (K : zOk χ cL_law RL 4 11 (some .boolean)) (hrc : zrcs χ = (56, 1213)) (hl1 : χ.2.1 = la) (hg1 : χ.2.2.2.2.2.2.2.2.2.2.1 = g0) (X : zSx χ b L xs) (hL : L ≤ 256) (hi : i + 4 ≤ L) (hI : zInv μ) (kk : ∀ ν, zInv ν → zV χ 4 ad zSH 56 1213 990 [(0, .ref b), (1, .ref (ad 0)), (2, .ref (ad 39)), (3, .int (zi ((i : Nat) : Int)))] [] ν) : zV χ 4 ad zSH 56 1213 384 [(0, .ref b), (1, .ref (ad 0)), (2, .ref (ad 39)), (3, .int (zi ((i : Nat) : Int)))] [] μ := by
  refine z_aload_n K dL_law_384 rfl ?_
  refine z_aload_n K dL_law_385 rfl ?_
  refine z_iload_n K dL_law_386 rfl ?_
  refine z_iconst K dL_law_387 ?_
  refine z_iadd K dL_law_388 ?_
  refine z_sld K X dL_law_389 (i + 1) (by omega) ⟨by omega, by omega⟩ ?_
  obtain ⟨Po1, C1, hP⟩ := st_feed la g0 ad hI ((xs (i + 1)).toInt) (zi_rg _)
  refine z_callVG K hl1 hg1 (kb := 0) (As := [.int (zi ((xs (i + 1)).toInt))]) (rest := []) C1 (by decide) lk_L_56 cd_X8_feed rfl rfl rfl rfl (Nat.le_of_ble_eq_true rfl) dL_law_390 (by rw [hrc]; exact ⟨Nat.le_refl _, Nat.le_refl _⟩) (fun v ν hv => ?_)
  obtain ⟨r, Po2, rfl, C2, hQ⟩ := hP v ν hv
  show zV χ 4 ad zSH 56 1213 393 [(0, .ref b), (1, .ref (ad 0)), (2, .ref (ad 39)), (3, .int (zi ((i : Nat) : Int)))] [.int r] ν
  refine z_aload_n K dL_law_393 rfl ?_
  refine z_aload_n K dL_law_394 rfl ?_
  refine z_iload_n K dL_law_395 rfl ?_
  refine z_iconst K dL_law_396 ?_
  refine z_iadd K dL_law_397 ?_
  refine z_sld K X dL_law_398 (i + 1) (by omega) ⟨by omega, by omega⟩ ?_
  refine z_callVG K hl1 hg1 (kb := 39) (As := [.int (zi ((xs (i + 1)).toInt))]) (rest := [.int r]) C2 (by decide) lk_L_59 cd_X9_feed rfl rfl rfl rfl (Nat.le_of_ble_eq_true rfl) dL_law_399 (by rw [hrc]; exact ⟨Nat.le_refl _, Nat.le_refl _⟩) (fun v2 ν2 hv2 => ?_)
  obtain ⟨rfl, hI2⟩ := hQ v2 ν2 hv2
  show zV χ 4 ad zSH 56 1213 402 [(0, .ref b), (1, .ref (ad 0)), (2, .ref (ad 39)), (3, .int (zi ((i : Nat) : Int)))] [.int r, .int r] ν2
  refine z_same (tgt := 990) K dL_law_402 (by decide) ?_
  exact kk ν2 hI2
set_option maxHeartbeats 4000000 in
theorem law_c11 {χ : zX} {la : Launch} {g0 : zG} {ad : Nat → Nat} {b L i : Nat} {xs : Nat → Int32} {μ : zMem} (K : zOk χ cL_law RL 4 11 (some .boolean)) (hrc : zrcs χ = (56, 1213)) (hl1 : χ.2.1 = la) (hg1 : χ.2.2.2.2.2.2.2.2.2.2.1 = g0) (X : zSx χ b L xs) (hL : L ≤ 256) (hi : i + 4 ≤ L) (hI : zInv μ) (kk : ∀ ν, zInv ν → zV χ 4 ad zSH 56 1213 990 [(0, .ref b), (1, .ref (ad 0)), (2, .ref (ad 39)), (3, .int (zi ((i : Nat) : Int)))] [] ν) : zV χ 4 ad zSH 56 1213 407 [(0, .ref b), (1, .ref (ad 0)), (2, .ref (ad 39)), (3, .int (zi ((i : Nat) : Int)))] [] μ := by
  refine z_aload_n K dL_law_407 rfl ?_
  refine z_aload_n K dL_law_408 rfl ?_
  refine z_iload_n K dL_law_409 rfl ?_
  refine z_iconst K dL_law_410 ?_
  refine z_iadd K dL_law_411 ?_
  refine z_sld K X dL_law_412 (i + 1) (by omega) ⟨by omega, by omega⟩ ?_
  refine z_aload_n K dL_law_413 rfl ?_
  refine z_iload_n K dL_law_414 rfl ?_
  refine z_iconst K dL_law_415 ?_
  refine z_iadd K dL_law_416 ?_
  refine z_sld K X dL_law_417 (i + 2) (by omega) ⟨by omega, by omega⟩ ?_
  obtain ⟨Po1, C1, hP⟩ := st_send la g0 ad hI ((xs (i + 1)).toInt) ((xs (i + 2)).toInt) (zi_rg _) (zi_rg _)
  refine z_callVG K hl1 hg1 (kb := 0) (As := [.int (zi ((xs (i + 1)).toInt)), .int (zi ((xs (i + 2)).toInt))]) (rest := []) C1 (by decide) lk_L_60 cd_X8_send rfl rfl rfl rfl (Nat.le_of_ble_eq_true rfl) dL_law_418 (by rw [hrc]; exact ⟨Nat.le_refl _, Nat.le_refl _⟩) (fun v ν hv => ?_)
  obtain ⟨r, Po2, rfl, C2, hQ⟩ := hP v ν hv
  show zV χ 4 ad zSH 56 1213 421 [(0, .ref b), (1, .ref (ad 0)), (2, .ref (ad 39)), (3, .int (zi ((i : Nat) : Int)))] [.int r] ν
  refine z_aload_n K dL_law_421 rfl ?_
  refine z_aload_n K dL_law_422 rfl ?_
  refine z_iload_n K dL_law_423 rfl ?_
  refine z_iconst K dL_law_424 ?_
  refine z_iadd K dL_law_425 ?_
  refine z_sld K X dL_law_426 (i + 1) (by omega) ⟨by omega, by omega⟩ ?_
  refine z_aload_n K dL_law_427 rfl ?_
  refine z_iload_n K dL_law_428 rfl ?_
  refine z_iconst K dL_law_429 ?_
  refine z_iadd K dL_law_430 ?_
  refine z_sld K X dL_law_431 (i + 2) (by omega) ⟨by omega, by omega⟩ ?_
  refine z_callVG K hl1 hg1 (kb := 39) (As := [.int (zi ((xs (i + 1)).toInt)), .int (zi ((xs (i + 2)).toInt))]) (rest := [.int r]) C2 (by decide) lk_L_63 cd_X9_send rfl rfl rfl rfl (Nat.le_of_ble_eq_true rfl) dL_law_432 (by rw [hrc]; exact ⟨Nat.le_refl _, Nat.le_refl _⟩) (fun v2 ν2 hv2 => ?_)
  obtain ⟨rfl, hI2⟩ := hQ v2 ν2 hv2
  show zV χ 4 ad zSH 56 1213 435 [(0, .ref b), (1, .ref (ad 0)), (2, .ref (ad 39)), (3, .int (zi ((i : Nat) : Int)))] [.int r, .int r] ν2
  refine z_same (tgt := 990) K dL_law_435 (by decide) ?_
  exact kk ν2 hI2
set_option maxHeartbeats 4000000 in
theorem law_c12 {χ : zX} {la : Launch} {g0 : zG} {ad : Nat → Nat} {b L i : Nat} {xs : Nat → Int32} {μ : zMem} (K : zOk χ cL_law RL 4 11 (some .boolean)) (hrc : zrcs χ = (56, 1213)) (hl1 : χ.2.1 = la) (hg1 : χ.2.2.2.2.2.2.2.2.2.2.1 = g0) (X : zSx χ b L xs) (hL : L ≤ 256) (hi : i + 4 ≤ L) (hI : zInv μ) (kk : ∀ ν, zInv ν → zV χ 4 ad zSH 56 1213 990 [(0, .ref b), (1, .ref (ad 0)), (2, .ref (ad 39)), (3, .int (zi ((i : Nat) : Int)))] [] ν) : zV χ 4 ad zSH 56 1213 440 [(0, .ref b), (1, .ref (ad 0)), (2, .ref (ad 39)), (3, .int (zi ((i : Nat) : Int)))] [] μ := by
  refine z_aload_n K dL_law_440 rfl ?_
  obtain ⟨Po1, C1, hP⟩ := st_undo la g0 ad hI  
  refine z_callVG K hl1 hg1 (kb := 0) (As := []) (rest := []) C1 (by decide) lk_L_64 cd_X8_undo rfl rfl rfl rfl (Nat.le_of_ble_eq_true rfl) dL_law_441 (by rw [hrc]; exact ⟨Nat.le_refl _, Nat.le_refl _⟩) (fun v ν hv => ?_)
  obtain ⟨r, Po2, rfl, C2, hQ⟩ := hP v ν hv
  show zV χ 4 ad zSH 56 1213 444 [(0, .ref b), (1, .ref (ad 0)), (2, .ref (ad 39)), (3, .int (zi ((i : Nat) : Int)))] [.int r] ν
  refine z_aload_n K dL_law_444 rfl ?_
  refine z_callVG K hl1 hg1 (kb := 39) (As := []) (rest := [.int r]) C2 (by decide) lk_L_67 cd_X9_undo rfl rfl rfl rfl (Nat.le_of_ble_eq_true rfl) dL_law_445 (by rw [hrc]; exact ⟨Nat.le_refl _, Nat.le_refl _⟩) (fun v2 ν2 hv2 => ?_)
  obtain ⟨rfl, hI2⟩ := hQ v2 ν2 hv2
  show zV χ 4 ad zSH 56 1213 448 [(0, .ref b), (1, .ref (ad 0)), (2, .ref (ad 39)), (3, .int (zi ((i : Nat) : Int)))] [.int r, .int r] ν2
  refine z_same (tgt := 990) K dL_law_448 (by decide) ?_
  exact kk ν2 hI2
set_option maxHeartbeats 4000000 in
theorem law_c13 {χ : zX} {la : Launch} {g0 : zG} {ad : Nat → Nat} {b L i : Nat} {xs : Nat → Int32} {μ : zMem} (K : zOk χ cL_law RL 4 11 (some .boolean)) (hrc : zrcs χ = (56, 1213)) (hl1 : χ.2.1 = la) (hg1 : χ.2.2.2.2.2.2.2.2.2.2.1 = g0) (X : zSx χ b L xs) (hL : L ≤ 256) (hi : i + 4 ≤ L) (hI : zInv μ) (kk : ∀ ν, zInv ν → zV χ 4 ad zSH 56 1213 990 [(0, .ref b), (1, .ref (ad 0)), (2, .ref (ad 39)), (3, .int (zi ((i : Nat) : Int)))] [] ν) : zV χ 4 ad zSH 56 1213 453 [(0, .ref b), (1, .ref (ad 0)), (2, .ref (ad 39)), (3, .int (zi ((i : Nat) : Int)))] [] μ := by
  refine z_aload_n K dL_law_453 rfl ?_
  refine z_aload_n K dL_law_454 rfl ?_
  refine z_iload_n K dL_law_455 rfl ?_
  refine z_iconst K dL_law_456 ?_
  refine z_iadd K dL_law_457 ?_
  refine z_sld K X dL_law_458 (i + 1) (by omega) ⟨by omega, by omega⟩ ?_
  refine z_aload_n K dL_law_459 rfl ?_
  refine z_iload_n K dL_law_460 rfl ?_
  refine z_iconst K dL_law_461 ?_
  refine z_iadd K dL_law_462 ?_
  refine z_sld K X dL_law_463 (i + 2) (by omega) ⟨by omega, by omega⟩ ?_
  obtain ⟨Po1, C1, hP⟩ := st_ahead la g0 ad hI ((xs (i + 1)).toInt) ((xs (i + 2)).toInt) (zi_rg _) (zi_rg _)
  refine z_callVG K hl1 hg1 (kb := 0) (As := [.int (zi ((xs (i + 1)).toInt)), .int (zi ((xs (i + 2)).toInt))]) (rest := []) C1 (by decide) lk_L_68 cd_X8_ahead rfl rfl rfl rfl (Nat.le_of_ble_eq_true rfl) dL_law_464 (by rw [hrc]; exact ⟨Nat.le_refl _, Nat.le_refl _⟩) (fun v ν hv => ?_)
  obtain ⟨r, Po2, rfl, C2, hQ⟩ := hP v ν hv
  show zV χ 4 ad zSH 56 1213 467 [(0, .ref b), (1, .ref (ad 0)), (2, .ref (ad 39)), (3, .int (zi ((i : Nat) : Int)))] [.int r] ν
  refine z_aload_n K dL_law_467 rfl ?_
  refine z_aload_n K dL_law_468 rfl ?_
  refine z_iload_n K dL_law_469 rfl ?_
  refine z_iconst K dL_law_470 ?_
  refine z_iadd K dL_law_471 ?_
  refine z_sld K X dL_law_472 (i + 1) (by omega) ⟨by omega, by omega⟩ ?_
  refine z_aload_n K dL_law_473 rfl ?_
  refine z_iload_n K dL_law_474 rfl ?_
  refine z_iconst K dL_law_475 ?_
  refine z_iadd K dL_law_476 ?_
  refine z_sld K X dL_law_477 (i + 2) (by omega) ⟨by omega, by omega⟩ ?_
  refine z_callVG K hl1 hg1 (kb := 39) (As := [.int (zi ((xs (i + 1)).toInt)), .int (zi ((xs (i + 2)).toInt))]) (rest := [.int r]) C2 (by decide) lk_L_71 cd_X9_ahead rfl rfl rfl rfl (Nat.le_of_ble_eq_true rfl) dL_law_478 (by rw [hrc]; exact ⟨Nat.le_refl _, Nat.le_refl _⟩) (fun v2 ν2 hv2 => ?_)
  obtain ⟨rfl, hI2⟩ := hQ v2 ν2 hv2
  show zV χ 4 ad zSH 56 1213 481 [(0, .ref b), (1, .ref (ad 0)), (2, .ref (ad 39)), (3, .int (zi ((i : Nat) : Int)))] [.int r, .int r] ν2
  refine z_same (tgt := 990) K dL_law_481 (by decide) ?_
  exact kk ν2 hI2
set_option maxHeartbeats 4000000 in
theorem law_c14 {χ : zX} {la : Launch} {g0 : zG} {ad : Nat → Nat} {b L i : Nat} {xs : Nat → Int32} {μ : zMem} (K : zOk χ cL_law RL 4 11 (some .boolean)) (hrc : zrcs χ = (56, 1213)) (hl1 : χ.2.1 = la) (hg1 : χ.2.2.2.2.2.2.2.2.2.2.1 = g0) (X : zSx χ b L xs) (hL : L ≤ 256) (hi : i + 4 ≤ L) (hI : zInv μ) (kk : ∀ ν, zInv ν → zV χ 4 ad zSH 56 1213 990 [(0, .ref b), (1, .ref (ad 0)), (2, .ref (ad 39)), (3, .int (zi ((i : Nat) : Int)))] [] ν) : zV χ 4 ad zSH 56 1213 486 [(0, .ref b), (1, .ref (ad 0)), (2, .ref (ad 39)), (3, .int (zi ((i : Nat) : Int)))] [] μ := by
  refine z_aload_n K dL_law_486 rfl ?_
  refine z_aload_n K dL_law_487 rfl ?_
  refine z_iload_n K dL_law_488 rfl ?_
  refine z_iconst K dL_law_489 ?_
  refine z_iadd K dL_law_490 ?_
  refine z_sld K X dL_law_491 (i + 1) (by omega) ⟨by omega, by omega⟩ ?_
  obtain ⟨Po1, C1, hP⟩ := st_hatches la g0 ad hI ((xs (i + 1)).toInt) (zi_rg _)
  refine z_callVG K hl1 hg1 (kb := 0) (As := [.int (zi ((xs (i + 1)).toInt))]) (rest := []) C1 (by decide) lk_L_72 cd_X8_hatches rfl rfl rfl rfl (Nat.le_of_ble_eq_true rfl) dL_law_492 (by rw [hrc]; exact ⟨Nat.le_refl _, Nat.le_refl _⟩) (fun v ν hv => ?_)
  obtain ⟨r, Po2, rfl, C2, hQ⟩ := hP v ν hv
  show zV χ 4 ad zSH 56 1213 495 [(0, .ref b), (1, .ref (ad 0)), (2, .ref (ad 39)), (3, .int (zi ((i : Nat) : Int)))] [.int r] ν
  refine z_aload_n K dL_law_495 rfl ?_
  refine z_aload_n K dL_law_496 rfl ?_
  refine z_iload_n K dL_law_497 rfl ?_
  refine z_iconst K dL_law_498 ?_
  refine z_iadd K dL_law_499 ?_
  refine z_sld K X dL_law_500 (i + 1) (by omega) ⟨by omega, by omega⟩ ?_
  refine z_callVG K hl1 hg1 (kb := 39) (As := [.int (zi ((xs (i + 1)).toInt))]) (rest := [.int r]) C2 (by decide) lk_L_75 cd_X9_hatches rfl rfl rfl rfl (Nat.le_of_ble_eq_true rfl) dL_law_501 (by rw [hrc]; exact ⟨Nat.le_refl _, Nat.le_refl _⟩) (fun v2 ν2 hv2 => ?_)
  obtain ⟨rfl, hI2⟩ := hQ v2 ν2 hv2
  show zV χ 4 ad zSH 56 1213 504 [(0, .ref b), (1, .ref (ad 0)), (2, .ref (ad 39)), (3, .int (zi ((i : Nat) : Int)))] [.int r, .int r] ν2
  refine z_same (tgt := 990) K dL_law_504 (by decide) ?_
  exact kk ν2 hI2
set_option maxHeartbeats 4000000 in
theorem law_c15 {χ : zX} {la : Launch} {g0 : zG} {ad : Nat → Nat} {b L i : Nat} {xs : Nat → Int32} {μ : zMem} (K : zOk χ cL_law RL 4 11 (some .boolean)) (hrc : zrcs χ = (56, 1213)) (hl1 : χ.2.1 = la) (hg1 : χ.2.2.2.2.2.2.2.2.2.2.1 = g0) (X : zSx χ b L xs) (hL : L ≤ 256) (hi : i + 4 ≤ L) (hI : zInv μ) (kk : ∀ ν, zInv ν → zV χ 4 ad zSH 56 1213 990 [(0, .ref b), (1, .ref (ad 0)), (2, .ref (ad 39)), (3, .int (zi ((i : Nat) : Int)))] [] ν) : zV χ 4 ad zSH 56 1213 509 [(0, .ref b), (1, .ref (ad 0)), (2, .ref (ad 39)), (3, .int (zi ((i : Nat) : Int)))] [] μ := by
  refine z_aload_n K dL_law_509 rfl ?_
  refine z_aload_n K dL_law_510 rfl ?_
  refine z_iload_n K dL_law_511 rfl ?_
  refine z_iconst K dL_law_512 ?_
  refine z_iadd K dL_law_513 ?_
  refine z_sld K X dL_law_514 (i + 1) (by omega) ⟨by omega, by omega⟩ ?_
  refine z_ifeq (tgt := 522) K dL_law_515 (by decide) (zi_rg _) (fun h515 => ?_) (fun h515 => ?_)
  · refine z_iconst K dL_law_522 ?_
    obtain ⟨Po1, C1, hP⟩ := st_rows la g0 ad hI (0 : Int) (Or.inl rfl)
    refine z_callVG K hl1 hg1 (kb := 0) (As := [.int (zi (0 : Int))]) (rest := []) C1 (by decide) lk_L_76 cd_X8_rows rfl rfl rfl rfl (Nat.le_of_ble_eq_true rfl) dL_law_523 (by rw [hrc]; exact ⟨Nat.le_refl _, Nat.le_refl _⟩) (fun v ν hv => ?_)
    obtain ⟨r, Po2, rfl, C2, hQ⟩ := hP v ν hv
    show zV χ 4 ad zSH 56 1213 526 [(0, .ref b), (1, .ref (ad 0)), (2, .ref (ad 39)), (3, .int (zi ((i : Nat) : Int)))] [.int r] ν
    refine z_aload_n K dL_law_526 rfl ?_
    refine z_aload_n K dL_law_527 rfl ?_
    refine z_iload_n K dL_law_528 rfl ?_
    refine z_iconst K dL_law_529 ?_
    refine z_iadd K dL_law_530 ?_
    refine z_sld K X dL_law_531 (i + 1) (by omega) ⟨by omega, by omega⟩ ?_
    refine z_ifeq (tgt := 539) K dL_law_532 (by decide) (zi_rg _) (fun _ => ?_) (fun h9 => absurd h515 h9)
    refine z_iconst K dL_law_539 ?_
    refine z_callVG K hl1 hg1 (kb := 39) (As := [.int (zi (0 : Int))]) (rest := [.int r]) C2 (by decide) lk_L_80 cd_X9_rows rfl rfl rfl rfl (Nat.le_of_ble_eq_true rfl) dL_law_540 (by rw [hrc]; exact ⟨Nat.le_refl _, Nat.le_refl _⟩) (fun v2 ν2 hv2 => ?_)
    obtain ⟨rfl, hI2⟩ := hQ v2 ν2 hv2
    show zV χ 4 ad zSH 56 1213 543 [(0, .ref b), (1, .ref (ad 0)), (2, .ref (ad 39)), (3, .int (zi ((i : Nat) : Int)))] [.int r, .int r] ν2
    refine z_same (tgt := 990) K dL_law_543 (by decide) ?_
    exact kk ν2 hI2
  · refine z_iconst K dL_law_518 ?_
    refine z_goto (tgt := 523) K dL_law_519 (by decide) ?_
    obtain ⟨Po1, C1, hP⟩ := st_rows la g0 ad hI (1 : Int) (Or.inr rfl)
    refine z_callVG K hl1 hg1 (kb := 0) (As := [.int (zi (1 : Int))]) (rest := []) C1 (by decide) lk_L_76 cd_X8_rows rfl rfl rfl rfl (Nat.le_of_ble_eq_true rfl) dL_law_523 (by rw [hrc]; exact ⟨Nat.le_refl _, Nat.le_refl _⟩) (fun v ν hv => ?_)
    obtain ⟨r, Po2, rfl, C2, hQ⟩ := hP v ν hv
    show zV χ 4 ad zSH 56 1213 526 [(0, .ref b), (1, .ref (ad 0)), (2, .ref (ad 39)), (3, .int (zi ((i : Nat) : Int)))] [.int r] ν
    refine z_aload_n K dL_law_526 rfl ?_
    refine z_aload_n K dL_law_527 rfl ?_
    refine z_iload_n K dL_law_528 rfl ?_
    refine z_iconst K dL_law_529 ?_
    refine z_iadd K dL_law_530 ?_
    refine z_sld K X dL_law_531 (i + 1) (by omega) ⟨by omega, by omega⟩ ?_
    refine z_ifeq (tgt := 539) K dL_law_532 (by decide) (zi_rg _) (fun h9 => absurd h9 h515) (fun _ => ?_)
    refine z_iconst K dL_law_535 ?_
    refine z_goto (tgt := 540) K dL_law_536 (by decide) ?_
    refine z_callVG K hl1 hg1 (kb := 39) (As := [.int (zi (1 : Int))]) (rest := [.int r]) C2 (by decide) lk_L_80 cd_X9_rows rfl rfl rfl rfl (Nat.le_of_ble_eq_true rfl) dL_law_540 (by rw [hrc]; exact ⟨Nat.le_refl _, Nat.le_refl _⟩) (fun v2 ν2 hv2 => ?_)
    obtain ⟨rfl, hI2⟩ := hQ v2 ν2 hv2
    show zV χ 4 ad zSH 56 1213 543 [(0, .ref b), (1, .ref (ad 0)), (2, .ref (ad 39)), (3, .int (zi ((i : Nat) : Int)))] [.int r, .int r] ν2
    refine z_same (tgt := 990) K dL_law_543 (by decide) ?_
    exact kk ν2 hI2
set_option maxHeartbeats 4000000 in
theorem law_c16 {χ : zX} {la : Launch} {g0 : zG} {ad : Nat → Nat} {b L i : Nat} {xs : Nat → Int32} {μ : zMem} (K : zOk χ cL_law RL 4 11 (some .boolean)) (hrc : zrcs χ = (56, 1213)) (hl1 : χ.2.1 = la) (hg1 : χ.2.2.2.2.2.2.2.2.2.2.1 = g0) (X : zSx χ b L xs) (hL : L ≤ 256) (hi : i + 4 ≤ L) (hI : zInv μ) (kk : ∀ ν, zInv ν → zV χ 4 ad zSH 56 1213 990 [(0, .ref b), (1, .ref (ad 0)), (2, .ref (ad 39)), (3, .int (zi ((i : Nat) : Int)))] [] ν) : zV χ 4 ad zSH 56 1213 548 [(0, .ref b), (1, .ref (ad 0)), (2, .ref (ad 39)), (3, .int (zi ((i : Nat) : Int)))] [] μ := by
  refine z_aload_n K dL_law_548 rfl ?_
  refine z_aload_n K dL_law_549 rfl ?_
  refine z_iload_n K dL_law_550 rfl ?_
  refine z_iconst K dL_law_551 ?_
  refine z_iadd K dL_law_552 ?_
  refine z_sld K X dL_law_553 (i + 1) (by omega) ⟨by omega, by omega⟩ ?_
  obtain ⟨Po1, C1, hP⟩ := st_saved la g0 ad hI ((xs (i + 1)).toInt) (zi_rg _)
  refine z_callVG K hl1 hg1 (kb := 0) (As := [.int (zi ((xs (i + 1)).toInt))]) (rest := []) C1 (by decide) lk_L_81 cd_X8_saved rfl rfl rfl rfl (Nat.le_of_ble_eq_true rfl) dL_law_554 (by rw [hrc]; exact ⟨Nat.le_refl _, Nat.le_refl _⟩) (fun v ν hv => ?_)
  obtain ⟨r, Po2, rfl, C2, hQ⟩ := hP v ν hv
  show zV χ 4 ad zSH 56 1213 557 [(0, .ref b), (1, .ref (ad 0)), (2, .ref (ad 39)), (3, .int (zi ((i : Nat) : Int)))] [.int r] ν
  refine z_aload_n K dL_law_557 rfl ?_
  refine z_aload_n K dL_law_558 rfl ?_
  refine z_iload_n K dL_law_559 rfl ?_
  refine z_iconst K dL_law_560 ?_
  refine z_iadd K dL_law_561 ?_
  refine z_sld K X dL_law_562 (i + 1) (by omega) ⟨by omega, by omega⟩ ?_
  refine z_callVG K hl1 hg1 (kb := 39) (As := [.int (zi ((xs (i + 1)).toInt))]) (rest := [.int r]) C2 (by decide) lk_L_84 cd_X9_saved rfl rfl rfl rfl (Nat.le_of_ble_eq_true rfl) dL_law_563 (by rw [hrc]; exact ⟨Nat.le_refl _, Nat.le_refl _⟩) (fun v2 ν2 hv2 => ?_)
  obtain ⟨rfl, hI2⟩ := hQ v2 ν2 hv2
  show zV χ 4 ad zSH 56 1213 566 [(0, .ref b), (1, .ref (ad 0)), (2, .ref (ad 39)), (3, .int (zi ((i : Nat) : Int)))] [.int r, .int r] ν2
  refine z_same (tgt := 990) K dL_law_566 (by decide) ?_
  exact kk ν2 hI2
set_option maxHeartbeats 4000000 in
theorem law_c17 {χ : zX} {la : Launch} {g0 : zG} {ad : Nat → Nat} {b L i : Nat} {xs : Nat → Int32} {μ : zMem} (K : zOk χ cL_law RL 4 11 (some .boolean)) (hrc : zrcs χ = (56, 1213)) (hl1 : χ.2.1 = la) (hg1 : χ.2.2.2.2.2.2.2.2.2.2.1 = g0) (X : zSx χ b L xs) (hL : L ≤ 256) (hi : i + 4 ≤ L) (hI : zInv μ) (kk : ∀ ν, zInv ν → zV χ 4 ad zSH 56 1213 990 [(0, .ref b), (1, .ref (ad 0)), (2, .ref (ad 39)), (3, .int (zi ((i : Nat) : Int)))] [] ν) : zV χ 4 ad zSH 56 1213 571 [(0, .ref b), (1, .ref (ad 0)), (2, .ref (ad 39)), (3, .int (zi ((i : Nat) : Int)))] [] μ := by
  refine z_aload_n K dL_law_571 rfl ?_
  obtain ⟨Po1, C1, hP⟩ := st_quiet la g0 ad hI  
  refine z_callVG K hl1 hg1 (kb := 0) (As := []) (rest := []) C1 (by decide) lk_L_85 cd_X8_quiet rfl rfl rfl rfl (Nat.le_of_ble_eq_true rfl) dL_law_572 (by rw [hrc]; exact ⟨Nat.le_refl _, Nat.le_refl _⟩) (fun v ν hv => ?_)
  obtain ⟨r, Po2, rfl, C2, hQ⟩ := hP v ν hv
  show zV χ 4 ad zSH 56 1213 575 [(0, .ref b), (1, .ref (ad 0)), (2, .ref (ad 39)), (3, .int (zi ((i : Nat) : Int)))] [.int r] ν
  refine z_aload_n K dL_law_575 rfl ?_
  refine z_callVG K hl1 hg1 (kb := 39) (As := []) (rest := [.int r]) C2 (by decide) lk_L_88 cd_X9_quiet rfl rfl rfl rfl (Nat.le_of_ble_eq_true rfl) dL_law_576 (by rw [hrc]; exact ⟨Nat.le_refl _, Nat.le_refl _⟩) (fun v2 ν2 hv2 => ?_)
  obtain ⟨rfl, hI2⟩ := hQ v2 ν2 hv2
  show zV χ 4 ad zSH 56 1213 579 [(0, .ref b), (1, .ref (ad 0)), (2, .ref (ad 39)), (3, .int (zi ((i : Nat) : Int)))] [.int r, .int r] ν2
  refine z_same (tgt := 990) K dL_law_579 (by decide) ?_
  exact kk ν2 hI2
set_option maxHeartbeats 4000000 in
theorem law_c18 {χ : zX} {la : Launch} {g0 : zG} {ad : Nat → Nat} {b L i : Nat} {xs : Nat → Int32} {μ : zMem} (K : zOk χ cL_law RL 4 11 (some .boolean)) (hrc : zrcs χ = (56, 1213)) (hl1 : χ.2.1 = la) (hg1 : χ.2.2.2.2.2.2.2.2.2.2.1 = g0) (X : zSx χ b L xs) (hL : L ≤ 256) (hi : i + 4 ≤ L) (hI : zInv μ) (kk : ∀ ν, zInv ν → zV χ 4 ad zSH 56 1213 990 [(0, .ref b), (1, .ref (ad 0)), (2, .ref (ad 39)), (3, .int (zi ((i : Nat) : Int)))] [] ν) : zV χ 4 ad zSH 56 1213 584 [(0, .ref b), (1, .ref (ad 0)), (2, .ref (ad 39)), (3, .int (zi ((i : Nat) : Int)))] [] μ := by
  refine z_aload_n K dL_law_584 rfl ?_
  refine z_aload_n K dL_law_585 rfl ?_
  refine z_iload_n K dL_law_586 rfl ?_
  refine z_iconst K dL_law_587 ?_
  refine z_iadd K dL_law_588 ?_
  refine z_sld K X dL_law_589 (i + 1) (by omega) ⟨by omega, by omega⟩ ?_
  refine z_aload_n K dL_law_590 rfl ?_
  refine z_iload_n K dL_law_591 rfl ?_
  refine z_iconst K dL_law_592 ?_
  refine z_iadd K dL_law_593 ?_
  refine z_sld K X dL_law_594 (i + 2) (by omega) ⟨by omega, by omega⟩ ?_
  refine z_i2l K dL_law_595 (zi_rg _) ?_
  refine z_bipush K dL_law_596 (by decide +kernel) ?_
  refine z_lshlR (z := zl ((xs (i + 2)).toInt) <<< ((zi 32).toInt64 &&& 63)) K dL_law_598 rfl ?_
  refine z_aload_n K dL_law_599 rfl ?_
  refine z_iload_n K dL_law_600 rfl ?_
  refine z_iconst K dL_law_601 ?_
  refine z_iadd K dL_law_602 ?_
  refine z_sld K X dL_law_603 (i + 3) (by omega) ⟨by omega, by omega⟩ ?_
  refine z_i2l K dL_law_604 (zi_rg _) ?_
  refine z_ldc2 (z := 4294967295) K dL_law_605 kc_L_89 rfl ?_
  refine z_landR K dL_law_608 ?_
  refine z_lorR K dL_law_609 ?_
  refine z_topl (x := zlo ((xs (i + 2)).toInt) ((xs (i + 3)).toInt)) ?_
  obtain ⟨Po1, C1, hP⟩ := st_judge la g0 ad hI ((xs (i + 1)).toInt) ((zlo ((xs (i + 2)).toInt) ((xs (i + 3)).toInt)).toInt) (zi_rg _) (zl_rg _)
  refine z_callVG K hl1 hg1 (kb := 0) (As := [.int (zi ((xs (i + 1)).toInt)), .long (zl ((zlo ((xs (i + 2)).toInt) ((xs (i + 3)).toInt)).toInt))]) (rest := []) C1 (by decide) lk_L_91 cd_X8_judge rfl rfl rfl rfl (Nat.le_of_ble_eq_true rfl) dL_law_610 (by rw [hrc]; exact ⟨Nat.le_refl _, Nat.le_refl _⟩) (fun v ν hv => ?_)
  obtain ⟨r, Po2, rfl, C2, hQ⟩ := hP v ν hv
  show zV χ 4 ad zSH 56 1213 613 [(0, .ref b), (1, .ref (ad 0)), (2, .ref (ad 39)), (3, .int (zi ((i : Nat) : Int)))] [.int r] ν
  refine z_aload_n K dL_law_613 rfl ?_
  refine z_aload_n K dL_law_614 rfl ?_
  refine z_iload_n K dL_law_615 rfl ?_
  refine z_iconst K dL_law_616 ?_
  refine z_iadd K dL_law_617 ?_
  refine z_sld K X dL_law_618 (i + 1) (by omega) ⟨by omega, by omega⟩ ?_
  refine z_aload_n K dL_law_619 rfl ?_
  refine z_iload_n K dL_law_620 rfl ?_
  refine z_iconst K dL_law_621 ?_
  refine z_iadd K dL_law_622 ?_
  refine z_sld K X dL_law_623 (i + 2) (by omega) ⟨by omega, by omega⟩ ?_
  refine z_i2l K dL_law_624 (zi_rg _) ?_
  refine z_bipush K dL_law_625 (by decide +kernel) ?_
  refine z_lshlR (z := zl ((xs (i + 2)).toInt) <<< ((zi 32).toInt64 &&& 63)) K dL_law_627 rfl ?_
  refine z_aload_n K dL_law_628 rfl ?_
  refine z_iload_n K dL_law_629 rfl ?_
  refine z_iconst K dL_law_630 ?_
  refine z_iadd K dL_law_631 ?_
  refine z_sld K X dL_law_632 (i + 3) (by omega) ⟨by omega, by omega⟩ ?_
  refine z_i2l K dL_law_633 (zi_rg _) ?_
  refine z_ldc2 (z := 4294967295) K dL_law_634 kc_L_89 rfl ?_
  refine z_landR K dL_law_637 ?_
  refine z_lorR K dL_law_638 ?_
  refine z_topl (x := zlo ((xs (i + 2)).toInt) ((xs (i + 3)).toInt)) ?_
  refine z_callVG K hl1 hg1 (kb := 39) (As := [.int (zi ((xs (i + 1)).toInt)), .long (zl ((zlo ((xs (i + 2)).toInt) ((xs (i + 3)).toInt)).toInt))]) (rest := [.int r]) C2 (by decide) lk_L_95 cd_X9_judge rfl rfl rfl rfl (Nat.le_of_ble_eq_true rfl) dL_law_639 (by rw [hrc]; exact ⟨Nat.le_refl _, Nat.le_refl _⟩) (fun v2 ν2 hv2 => ?_)
  obtain ⟨rfl, hI2⟩ := hQ v2 ν2 hv2
  show zV χ 4 ad zSH 56 1213 642 [(0, .ref b), (1, .ref (ad 0)), (2, .ref (ad 39)), (3, .int (zi ((i : Nat) : Int)))] [.int r, .int r] ν2
  refine z_same (tgt := 990) K dL_law_642 (by decide) ?_
  exact kk ν2 hI2
set_option maxHeartbeats 4000000 in
theorem law_c19 {χ : zX} {la : Launch} {g0 : zG} {ad : Nat → Nat} {b L i : Nat} {xs : Nat → Int32} {μ : zMem} (K : zOk χ cL_law RL 4 11 (some .boolean)) (hrc : zrcs χ = (56, 1213)) (hl1 : χ.2.1 = la) (hg1 : χ.2.2.2.2.2.2.2.2.2.2.1 = g0) (X : zSx χ b L xs) (hL : L ≤ 256) (hi : i + 4 ≤ L) (hI : zInv μ) (kk : ∀ ν, zInv ν → zV χ 4 ad zSH 56 1213 990 [(0, .ref b), (1, .ref (ad 0)), (2, .ref (ad 39)), (3, .int (zi ((i : Nat) : Int)))] [] ν) : zV χ 4 ad zSH 56 1213 647 [(0, .ref b), (1, .ref (ad 0)), (2, .ref (ad 39)), (3, .int (zi ((i : Nat) : Int)))] [] μ := by
  refine z_aload_n K dL_law_647 rfl ?_
  refine z_aload_n K dL_law_648 rfl ?_
  refine z_iload_n K dL_law_649 rfl ?_
  refine z_iconst K dL_law_650 ?_
  refine z_iadd K dL_law_651 ?_
  refine z_sld K X dL_law_652 (i + 1) (by omega) ⟨by omega, by omega⟩ ?_
  refine z_aload_n K dL_law_653 rfl ?_
  refine z_iload_n K dL_law_654 rfl ?_
  refine z_iconst K dL_law_655 ?_
  refine z_iadd K dL_law_656 ?_
  refine z_sld K X dL_law_657 (i + 2) (by omega) ⟨by omega, by omega⟩ ?_
  refine z_ifeq (tgt := 665) K dL_law_658 (by decide) (zi_rg _) (fun h658 => ?_) (fun h658 => ?_)
  · refine z_iconst K dL_law_665 ?_
    obtain ⟨Po1, C1, hP⟩ := st_share la g0 ad hI ((xs (i + 1)).toInt) (0 : Int) (zi_rg _) (Or.inl rfl)
    refine z_callVG K hl1 hg1 (kb := 0) (As := [.int (zi ((xs (i + 1)).toInt)), .int (zi (0 : Int))]) (rest := []) C1 (by decide) lk_L_96 cd_X8_share rfl rfl rfl rfl (Nat.le_of_ble_eq_true rfl) dL_law_666 (by rw [hrc]; exact ⟨Nat.le_refl _, Nat.le_refl _⟩) (fun v ν hv => ?_)
    obtain ⟨r, Po2, rfl, C2, hQ⟩ := hP v ν hv
    show zV χ 4 ad zSH 56 1213 669 [(0, .ref b), (1, .ref (ad 0)), (2, .ref (ad 39)), (3, .int (zi ((i : Nat) : Int)))] [.int r] ν
    refine z_aload_n K dL_law_669 rfl ?_
    refine z_aload_n K dL_law_670 rfl ?_
    refine z_iload_n K dL_law_671 rfl ?_
    refine z_iconst K dL_law_672 ?_
    refine z_iadd K dL_law_673 ?_
    refine z_sld K X dL_law_674 (i + 1) (by omega) ⟨by omega, by omega⟩ ?_
    refine z_aload_n K dL_law_675 rfl ?_
    refine z_iload_n K dL_law_676 rfl ?_
    refine z_iconst K dL_law_677 ?_
    refine z_iadd K dL_law_678 ?_
    refine z_sld K X dL_law_679 (i + 2) (by omega) ⟨by omega, by omega⟩ ?_
    refine z_ifeq (tgt := 687) K dL_law_680 (by decide) (zi_rg _) (fun _ => ?_) (fun h9 => absurd h658 h9)
    refine z_iconst K dL_law_687 ?_
    refine z_callVG K hl1 hg1 (kb := 39) (As := [.int (zi ((xs (i + 1)).toInt)), .int (zi (0 : Int))]) (rest := [.int r]) C2 (by decide) lk_L_100 cd_X9_share rfl rfl rfl rfl (Nat.le_of_ble_eq_true rfl) dL_law_688 (by rw [hrc]; exact ⟨Nat.le_refl _, Nat.le_refl _⟩) (fun v2 ν2 hv2 => ?_)
    obtain ⟨rfl, hI2⟩ := hQ v2 ν2 hv2
    show zV χ 4 ad zSH 56 1213 691 [(0, .ref b), (1, .ref (ad 0)), (2, .ref (ad 39)), (3, .int (zi ((i : Nat) : Int)))] [.int r, .int r] ν2
    refine z_same (tgt := 990) K dL_law_691 (by decide) ?_
    exact kk ν2 hI2
  · refine z_iconst K dL_law_661 ?_
    refine z_goto (tgt := 666) K dL_law_662 (by decide) ?_
    obtain ⟨Po1, C1, hP⟩ := st_share la g0 ad hI ((xs (i + 1)).toInt) (1 : Int) (zi_rg _) (Or.inr rfl)
    refine z_callVG K hl1 hg1 (kb := 0) (As := [.int (zi ((xs (i + 1)).toInt)), .int (zi (1 : Int))]) (rest := []) C1 (by decide) lk_L_96 cd_X8_share rfl rfl rfl rfl (Nat.le_of_ble_eq_true rfl) dL_law_666 (by rw [hrc]; exact ⟨Nat.le_refl _, Nat.le_refl _⟩) (fun v ν hv => ?_)
    obtain ⟨r, Po2, rfl, C2, hQ⟩ := hP v ν hv
    show zV χ 4 ad zSH 56 1213 669 [(0, .ref b), (1, .ref (ad 0)), (2, .ref (ad 39)), (3, .int (zi ((i : Nat) : Int)))] [.int r] ν
    refine z_aload_n K dL_law_669 rfl ?_
    refine z_aload_n K dL_law_670 rfl ?_
    refine z_iload_n K dL_law_671 rfl ?_
    refine z_iconst K dL_law_672 ?_
    refine z_iadd K dL_law_673 ?_
    refine z_sld K X dL_law_674 (i + 1) (by omega) ⟨by omega, by omega⟩ ?_
    refine z_aload_n K dL_law_675 rfl ?_
    refine z_iload_n K dL_law_676 rfl ?_
    refine z_iconst K dL_law_677 ?_
    refine z_iadd K dL_law_678 ?_
    refine z_sld K X dL_law_679 (i + 2) (by omega) ⟨by omega, by omega⟩ ?_
    refine z_ifeq (tgt := 687) K dL_law_680 (by decide) (zi_rg _) (fun h9 => absurd h9 h658) (fun _ => ?_)
    refine z_iconst K dL_law_683 ?_
    refine z_goto (tgt := 688) K dL_law_684 (by decide) ?_
    refine z_callVG K hl1 hg1 (kb := 39) (As := [.int (zi ((xs (i + 1)).toInt)), .int (zi (1 : Int))]) (rest := [.int r]) C2 (by decide) lk_L_100 cd_X9_share rfl rfl rfl rfl (Nat.le_of_ble_eq_true rfl) dL_law_688 (by rw [hrc]; exact ⟨Nat.le_refl _, Nat.le_refl _⟩) (fun v2 ν2 hv2 => ?_)
    obtain ⟨rfl, hI2⟩ := hQ v2 ν2 hv2
    show zV χ 4 ad zSH 56 1213 691 [(0, .ref b), (1, .ref (ad 0)), (2, .ref (ad 39)), (3, .int (zi ((i : Nat) : Int)))] [.int r, .int r] ν2
    refine z_same (tgt := 990) K dL_law_691 (by decide) ?_
    exact kk ν2 hI2
set_option maxHeartbeats 4000000 in
theorem law_c20 {χ : zX} {la : Launch} {g0 : zG} {ad : Nat → Nat} {b L i : Nat} {xs : Nat → Int32} {μ : zMem} (K : zOk χ cL_law RL 4 11 (some .boolean)) (hrc : zrcs χ = (56, 1213)) (hl1 : χ.2.1 = la) (hg1 : χ.2.2.2.2.2.2.2.2.2.2.1 = g0) (X : zSx χ b L xs) (hL : L ≤ 256) (hi : i + 4 ≤ L) (hI : zInv μ) (kk : ∀ ν, zInv ν → zV χ 4 ad zSH 56 1213 990 [(0, .ref b), (1, .ref (ad 0)), (2, .ref (ad 39)), (3, .int (zi ((i : Nat) : Int)))] [] ν) : zV χ 4 ad zSH 56 1213 696 [(0, .ref b), (1, .ref (ad 0)), (2, .ref (ad 39)), (3, .int (zi ((i : Nat) : Int)))] [] μ := by
  refine z_aload_n K dL_law_696 rfl ?_
  refine z_aload_n K dL_law_697 rfl ?_
  refine z_iload_n K dL_law_698 rfl ?_
  refine z_iconst K dL_law_699 ?_
  refine z_iadd K dL_law_700 ?_
  refine z_sld K X dL_law_701 (i + 1) (by omega) ⟨by omega, by omega⟩ ?_
  refine z_aload_n K dL_law_702 rfl ?_
  refine z_iload_n K dL_law_703 rfl ?_
  refine z_iconst K dL_law_704 ?_
  refine z_iadd K dL_law_705 ?_
  refine z_sld K X dL_law_706 (i + 2) (by omega) ⟨by omega, by omega⟩ ?_
  obtain ⟨Po1, C1, hP⟩ := st_tell la g0 ad hI ((xs (i + 1)).toInt) ((xs (i + 2)).toInt) (zi_rg _) (zi_rg _)
  refine z_callVG K hl1 hg1 (kb := 0) (As := [.int (zi ((xs (i + 1)).toInt)), .int (zi ((xs (i + 2)).toInt))]) (rest := []) C1 (by decide) lk_L_101 cd_X8_tell rfl rfl rfl rfl (Nat.le_of_ble_eq_true rfl) dL_law_707 (by rw [hrc]; exact ⟨Nat.le_refl _, Nat.le_refl _⟩) (fun v ν hv => ?_)
  obtain ⟨r, Po2, rfl, C2, hQ⟩ := hP v ν hv
  show zV χ 4 ad zSH 56 1213 710 [(0, .ref b), (1, .ref (ad 0)), (2, .ref (ad 39)), (3, .int (zi ((i : Nat) : Int)))] [.int r] ν
  refine z_aload_n K dL_law_710 rfl ?_
  refine z_aload_n K dL_law_711 rfl ?_
  refine z_iload_n K dL_law_712 rfl ?_
  refine z_iconst K dL_law_713 ?_
  refine z_iadd K dL_law_714 ?_
  refine z_sld K X dL_law_715 (i + 1) (by omega) ⟨by omega, by omega⟩ ?_
  refine z_aload_n K dL_law_716 rfl ?_
  refine z_iload_n K dL_law_717 rfl ?_
  refine z_iconst K dL_law_718 ?_
  refine z_iadd K dL_law_719 ?_
  refine z_sld K X dL_law_720 (i + 2) (by omega) ⟨by omega, by omega⟩ ?_
  refine z_callVG K hl1 hg1 (kb := 39) (As := [.int (zi ((xs (i + 1)).toInt)), .int (zi ((xs (i + 2)).toInt))]) (rest := [.int r]) C2 (by decide) lk_L_104 cd_X9_tell rfl rfl rfl rfl (Nat.le_of_ble_eq_true rfl) dL_law_721 (by rw [hrc]; exact ⟨Nat.le_refl _, Nat.le_refl _⟩) (fun v2 ν2 hv2 => ?_)
  obtain ⟨rfl, hI2⟩ := hQ v2 ν2 hv2
  show zV χ 4 ad zSH 56 1213 724 [(0, .ref b), (1, .ref (ad 0)), (2, .ref (ad 39)), (3, .int (zi ((i : Nat) : Int)))] [.int r, .int r] ν2
  refine z_same (tgt := 990) K dL_law_724 (by decide) ?_
  exact kk ν2 hI2
set_option maxHeartbeats 4000000 in
theorem law_c21 {χ : zX} {la : Launch} {g0 : zG} {ad : Nat → Nat} {b L i : Nat} {xs : Nat → Int32} {μ : zMem} (K : zOk χ cL_law RL 4 11 (some .boolean)) (hrc : zrcs χ = (56, 1213)) (hl1 : χ.2.1 = la) (hg1 : χ.2.2.2.2.2.2.2.2.2.2.1 = g0) (X : zSx χ b L xs) (hL : L ≤ 256) (hi : i + 4 ≤ L) (hI : zInv μ) (kk : ∀ ν, zInv ν → zV χ 4 ad zSH 56 1213 990 [(0, .ref b), (1, .ref (ad 0)), (2, .ref (ad 39)), (3, .int (zi ((i : Nat) : Int)))] [] ν) : zV χ 4 ad zSH 56 1213 729 [(0, .ref b), (1, .ref (ad 0)), (2, .ref (ad 39)), (3, .int (zi ((i : Nat) : Int)))] [] μ := by
  refine z_aload_n K dL_law_729 rfl ?_
  obtain ⟨Po1, C1, hP⟩ := st_untell la g0 ad hI  
  refine z_callVG K hl1 hg1 (kb := 0) (As := []) (rest := []) C1 (by decide) lk_L_105 cd_X8_untell rfl rfl rfl rfl (Nat.le_of_ble_eq_true rfl) dL_law_730 (by rw [hrc]; exact ⟨Nat.le_refl _, Nat.le_refl _⟩) (fun v ν hv => ?_)
  obtain ⟨r, Po2, rfl, C2, hQ⟩ := hP v ν hv
  show zV χ 4 ad zSH 56 1213 733 [(0, .ref b), (1, .ref (ad 0)), (2, .ref (ad 39)), (3, .int (zi ((i : Nat) : Int)))] [.int r] ν
  refine z_aload_n K dL_law_733 rfl ?_
  refine z_callVG K hl1 hg1 (kb := 39) (As := []) (rest := [.int r]) C2 (by decide) lk_L_108 cd_X9_untell rfl rfl rfl rfl (Nat.le_of_ble_eq_true rfl) dL_law_734 (by rw [hrc]; exact ⟨Nat.le_refl _, Nat.le_refl _⟩) (fun v2 ν2 hv2 => ?_)
  obtain ⟨rfl, hI2⟩ := hQ v2 ν2 hv2
  show zV χ 4 ad zSH 56 1213 737 [(0, .ref b), (1, .ref (ad 0)), (2, .ref (ad 39)), (3, .int (zi ((i : Nat) : Int)))] [.int r, .int r] ν2
  refine z_same (tgt := 990) K dL_law_737 (by decide) ?_
  exact kk ν2 hI2
set_option maxHeartbeats 4000000 in
theorem law_c22 {χ : zX} {la : Launch} {g0 : zG} {ad : Nat → Nat} {b L i : Nat} {xs : Nat → Int32} {μ : zMem} (K : zOk χ cL_law RL 4 11 (some .boolean)) (hrc : zrcs χ = (56, 1213)) (hl1 : χ.2.1 = la) (hg1 : χ.2.2.2.2.2.2.2.2.2.2.1 = g0) (X : zSx χ b L xs) (hL : L ≤ 256) (hi : i + 4 ≤ L) (hI : zInv μ) (kk : ∀ ν, zInv ν → zV χ 4 ad zSH 56 1213 990 [(0, .ref b), (1, .ref (ad 0)), (2, .ref (ad 39)), (3, .int (zi ((i : Nat) : Int)))] [] ν) : zV χ 4 ad zSH 56 1213 742 [(0, .ref b), (1, .ref (ad 0)), (2, .ref (ad 39)), (3, .int (zi ((i : Nat) : Int)))] [] μ := by
  refine z_aload_n K dL_law_742 rfl ?_
  refine z_aload_n K dL_law_743 rfl ?_
  refine z_iload_n K dL_law_744 rfl ?_
  refine z_iconst K dL_law_745 ?_
  refine z_iadd K dL_law_746 ?_
  refine z_sld K X dL_law_747 (i + 1) (by omega) ⟨by omega, by omega⟩ ?_
  obtain ⟨Po1, C1, hP⟩ := st_may la g0 ad hI ((xs (i + 1)).toInt) (zi_rg _)
  refine z_callVG K hl1 hg1 (kb := 0) (As := [.int (zi ((xs (i + 1)).toInt))]) (rest := []) C1 (by decide) lk_L_109 cd_X8_may rfl rfl rfl rfl (Nat.le_of_ble_eq_true rfl) dL_law_748 (by rw [hrc]; exact ⟨Nat.le_refl _, Nat.le_refl _⟩) (fun v ν hv => ?_)
  obtain ⟨r, Po2, rfl, C2, hQ⟩ := hP v ν hv
  show zV χ 4 ad zSH 56 1213 751 [(0, .ref b), (1, .ref (ad 0)), (2, .ref (ad 39)), (3, .int (zi ((i : Nat) : Int)))] [.int r] ν
  refine z_aload_n K dL_law_751 rfl ?_
  refine z_aload_n K dL_law_752 rfl ?_
  refine z_iload_n K dL_law_753 rfl ?_
  refine z_iconst K dL_law_754 ?_
  refine z_iadd K dL_law_755 ?_
  refine z_sld K X dL_law_756 (i + 1) (by omega) ⟨by omega, by omega⟩ ?_
  refine z_callVG K hl1 hg1 (kb := 39) (As := [.int (zi ((xs (i + 1)).toInt))]) (rest := [.int r]) C2 (by decide) lk_L_112 cd_X9_may rfl rfl rfl rfl (Nat.le_of_ble_eq_true rfl) dL_law_757 (by rw [hrc]; exact ⟨Nat.le_refl _, Nat.le_refl _⟩) (fun v2 ν2 hv2 => ?_)
  obtain ⟨rfl, hI2⟩ := hQ v2 ν2 hv2
  show zV χ 4 ad zSH 56 1213 760 [(0, .ref b), (1, .ref (ad 0)), (2, .ref (ad 39)), (3, .int (zi ((i : Nat) : Int)))] [.int r, .int r] ν2
  refine z_same (tgt := 990) K dL_law_760 (by decide) ?_
  exact kk ν2 hI2
set_option maxHeartbeats 4000000 in
theorem law_c23 {χ : zX} {la : Launch} {g0 : zG} {ad : Nat → Nat} {b L i : Nat} {xs : Nat → Int32} {μ : zMem} (K : zOk χ cL_law RL 4 11 (some .boolean)) (hrc : zrcs χ = (56, 1213)) (hl1 : χ.2.1 = la) (hg1 : χ.2.2.2.2.2.2.2.2.2.2.1 = g0) (X : zSx χ b L xs) (hL : L ≤ 256) (hi : i + 4 ≤ L) (hI : zInv μ) (kk : ∀ ν, zInv ν → zV χ 4 ad zSH 56 1213 990 [(0, .ref b), (1, .ref (ad 0)), (2, .ref (ad 39)), (3, .int (zi ((i : Nat) : Int)))] [] ν) : zV χ 4 ad zSH 56 1213 765 [(0, .ref b), (1, .ref (ad 0)), (2, .ref (ad 39)), (3, .int (zi ((i : Nat) : Int)))] [] μ := by
  refine z_aload_n K dL_law_765 rfl ?_
  refine z_aload_n K dL_law_766 rfl ?_
  refine z_iload_n K dL_law_767 rfl ?_
  refine z_iconst K dL_law_768 ?_
  refine z_iadd K dL_law_769 ?_
  refine z_sld K X dL_law_770 (i + 1) (by omega) ⟨by omega, by omega⟩ ?_
  refine z_aload_n K dL_law_771 rfl ?_
  refine z_iload_n K dL_law_772 rfl ?_
  refine z_iconst K dL_law_773 ?_
  refine z_iadd K dL_law_774 ?_
  refine z_sld K X dL_law_775 (i + 2) (by omega) ⟨by omega, by omega⟩ ?_
  refine z_aload_n K dL_law_776 rfl ?_
  refine z_iload_n K dL_law_777 rfl ?_
  refine z_iconst K dL_law_778 ?_
  refine z_iadd K dL_law_779 ?_
  refine z_sld K X dL_law_780 (i + 3) (by omega) ⟨by omega, by omega⟩ ?_
  obtain ⟨Po1, C1, hP⟩ := st_rests la g0 ad hI ((xs (i + 1)).toInt) ((xs (i + 2)).toInt) ((xs (i + 3)).toInt) (zi_rg _) (zi_rg _) (zi_rg _)
  refine z_callVG K hl1 hg1 (kb := 0) (As := [.int (zi ((xs (i + 1)).toInt)), .int (zi ((xs (i + 2)).toInt)), .int (zi ((xs (i + 3)).toInt))]) (rest := []) C1 (by decide) lk_L_113 cd_X8_rests rfl rfl rfl rfl (Nat.le_of_ble_eq_true rfl) dL_law_781 (by rw [hrc]; exact ⟨Nat.le_refl _, Nat.le_refl _⟩) (fun v ν hv => ?_)
  obtain ⟨r, Po2, rfl, C2, hQ⟩ := hP v ν hv
  show zV χ 4 ad zSH 56 1213 784 [(0, .ref b), (1, .ref (ad 0)), (2, .ref (ad 39)), (3, .int (zi ((i : Nat) : Int)))] [.int r] ν
  refine z_aload_n K dL_law_784 rfl ?_
  refine z_aload_n K dL_law_785 rfl ?_
  refine z_iload_n K dL_law_786 rfl ?_
  refine z_iconst K dL_law_787 ?_
  refine z_iadd K dL_law_788 ?_
  refine z_sld K X dL_law_789 (i + 1) (by omega) ⟨by omega, by omega⟩ ?_
  refine z_aload_n K dL_law_790 rfl ?_
  refine z_iload_n K dL_law_791 rfl ?_
  refine z_iconst K dL_law_792 ?_
  refine z_iadd K dL_law_793 ?_
  refine z_sld K X dL_law_794 (i + 2) (by omega) ⟨by omega, by omega⟩ ?_
  refine z_aload_n K dL_law_795 rfl ?_
  refine z_iload_n K dL_law_796 rfl ?_
  refine z_iconst K dL_law_797 ?_
  refine z_iadd K dL_law_798 ?_
  refine z_sld K X dL_law_799 (i + 3) (by omega) ⟨by omega, by omega⟩ ?_
  refine z_callVG K hl1 hg1 (kb := 39) (As := [.int (zi ((xs (i + 1)).toInt)), .int (zi ((xs (i + 2)).toInt)), .int (zi ((xs (i + 3)).toInt))]) (rest := [.int r]) C2 (by decide) lk_L_117 cd_X9_rests rfl rfl rfl rfl (Nat.le_of_ble_eq_true rfl) dL_law_800 (by rw [hrc]; exact ⟨Nat.le_refl _, Nat.le_refl _⟩) (fun v2 ν2 hv2 => ?_)
  obtain ⟨rfl, hI2⟩ := hQ v2 ν2 hv2
  show zV χ 4 ad zSH 56 1213 803 [(0, .ref b), (1, .ref (ad 0)), (2, .ref (ad 39)), (3, .int (zi ((i : Nat) : Int)))] [.int r, .int r] ν2
  refine z_same (tgt := 990) K dL_law_803 (by decide) ?_
  exact kk ν2 hI2
set_option maxHeartbeats 4000000 in
theorem law_c24 {χ : zX} {la : Launch} {g0 : zG} {ad : Nat → Nat} {b L i : Nat} {xs : Nat → Int32} {μ : zMem} (K : zOk χ cL_law RL 4 11 (some .boolean)) (hrc : zrcs χ = (56, 1213)) (hl1 : χ.2.1 = la) (hg1 : χ.2.2.2.2.2.2.2.2.2.2.1 = g0) (X : zSx χ b L xs) (hL : L ≤ 256) (hi : i + 4 ≤ L) (hI : zInv μ) (kk : ∀ ν, zInv ν → zV χ 4 ad zSH 56 1213 990 [(0, .ref b), (1, .ref (ad 0)), (2, .ref (ad 39)), (3, .int (zi ((i : Nat) : Int)))] [] ν) : zV χ 4 ad zSH 56 1213 808 [(0, .ref b), (1, .ref (ad 0)), (2, .ref (ad 39)), (3, .int (zi ((i : Nat) : Int)))] [] μ := by
  refine z_aload_n K dL_law_808 rfl ?_
  refine z_aload_n K dL_law_809 rfl ?_
  refine z_iload_n K dL_law_810 rfl ?_
  refine z_iconst K dL_law_811 ?_
  refine z_iadd K dL_law_812 ?_
  refine z_sld K X dL_law_813 (i + 1) (by omega) ⟨by omega, by omega⟩ ?_
  refine z_aload_n K dL_law_814 rfl ?_
  refine z_iload_n K dL_law_815 rfl ?_
  refine z_iconst K dL_law_816 ?_
  refine z_iadd K dL_law_817 ?_
  refine z_sld K X dL_law_818 (i + 2) (by omega) ⟨by omega, by omega⟩ ?_
  refine z_aload_n K dL_law_819 rfl ?_
  refine z_iload_n K dL_law_820 rfl ?_
  refine z_iconst K dL_law_821 ?_
  refine z_iadd K dL_law_822 ?_
  refine z_sld K X dL_law_823 (i + 3) (by omega) ⟨by omega, by omega⟩ ?_
  refine z_ifeq (tgt := 831) K dL_law_824 (by decide) (zi_rg _) (fun h824 => ?_) (fun h824 => ?_)
  · refine z_iconst K dL_law_831 ?_
    obtain ⟨Po1, C1, hP⟩ := st_hawks la g0 ad hI ((xs (i + 1)).toInt) ((xs (i + 2)).toInt) (0 : Int) (zi_rg _) (zi_rg _) (Or.inl rfl)
    refine z_callVG K hl1 hg1 (kb := 0) (As := [.int (zi ((xs (i + 1)).toInt)), .int (zi ((xs (i + 2)).toInt)), .int (zi (0 : Int))]) (rest := []) C1 (by decide) lk_L_118 cd_X8_hawks rfl rfl rfl rfl (Nat.le_of_ble_eq_true rfl) dL_law_832 (by rw [hrc]; exact ⟨Nat.le_refl _, Nat.le_refl _⟩) (fun v ν hv => ?_)
    obtain ⟨r, Po2, rfl, C2, hQ⟩ := hP v ν hv
    show zV χ 4 ad zSH 56 1213 835 [(0, .ref b), (1, .ref (ad 0)), (2, .ref (ad 39)), (3, .int (zi ((i : Nat) : Int)))] [.int r] ν
    refine z_aload_n K dL_law_835 rfl ?_
    refine z_aload_n K dL_law_836 rfl ?_
    refine z_iload_n K dL_law_837 rfl ?_
    refine z_iconst K dL_law_838 ?_
    refine z_iadd K dL_law_839 ?_
    refine z_sld K X dL_law_840 (i + 1) (by omega) ⟨by omega, by omega⟩ ?_
    refine z_aload_n K dL_law_841 rfl ?_
    refine z_iload_n K dL_law_842 rfl ?_
    refine z_iconst K dL_law_843 ?_
    refine z_iadd K dL_law_844 ?_
    refine z_sld K X dL_law_845 (i + 2) (by omega) ⟨by omega, by omega⟩ ?_
    refine z_aload_n K dL_law_846 rfl ?_
    refine z_iload_n K dL_law_847 rfl ?_
    refine z_iconst K dL_law_848 ?_
    refine z_iadd K dL_law_849 ?_
    refine z_sld K X dL_law_850 (i + 3) (by omega) ⟨by omega, by omega⟩ ?_
    refine z_ifeq (tgt := 858) K dL_law_851 (by decide) (zi_rg _) (fun _ => ?_) (fun h9 => absurd h824 h9)
    refine z_iconst K dL_law_858 ?_
    refine z_callVG K hl1 hg1 (kb := 39) (As := [.int (zi ((xs (i + 1)).toInt)), .int (zi ((xs (i + 2)).toInt)), .int (zi (0 : Int))]) (rest := [.int r]) C2 (by decide) lk_L_122 cd_X9_hawks rfl rfl rfl rfl (Nat.le_of_ble_eq_true rfl) dL_law_859 (by rw [hrc]; exact ⟨Nat.le_refl _, Nat.le_refl _⟩) (fun v2 ν2 hv2 => ?_)
    obtain ⟨rfl, hI2⟩ := hQ v2 ν2 hv2
    show zV χ 4 ad zSH 56 1213 862 [(0, .ref b), (1, .ref (ad 0)), (2, .ref (ad 39)), (3, .int (zi ((i : Nat) : Int)))] [.int r, .int r] ν2
    refine z_same (tgt := 990) K dL_law_862 (by decide) ?_
    exact kk ν2 hI2
  · refine z_iconst K dL_law_827 ?_
    refine z_goto (tgt := 832) K dL_law_828 (by decide) ?_
    obtain ⟨Po1, C1, hP⟩ := st_hawks la g0 ad hI ((xs (i + 1)).toInt) ((xs (i + 2)).toInt) (1 : Int) (zi_rg _) (zi_rg _) (Or.inr rfl)
    refine z_callVG K hl1 hg1 (kb := 0) (As := [.int (zi ((xs (i + 1)).toInt)), .int (zi ((xs (i + 2)).toInt)), .int (zi (1 : Int))]) (rest := []) C1 (by decide) lk_L_118 cd_X8_hawks rfl rfl rfl rfl (Nat.le_of_ble_eq_true rfl) dL_law_832 (by rw [hrc]; exact ⟨Nat.le_refl _, Nat.le_refl _⟩) (fun v ν hv => ?_)
    obtain ⟨r, Po2, rfl, C2, hQ⟩ := hP v ν hv
    show zV χ 4 ad zSH 56 1213 835 [(0, .ref b), (1, .ref (ad 0)), (2, .ref (ad 39)), (3, .int (zi ((i : Nat) : Int)))] [.int r] ν
    refine z_aload_n K dL_law_835 rfl ?_
    refine z_aload_n K dL_law_836 rfl ?_
    refine z_iload_n K dL_law_837 rfl ?_
    refine z_iconst K dL_law_838 ?_
    refine z_iadd K dL_law_839 ?_
    refine z_sld K X dL_law_840 (i + 1) (by omega) ⟨by omega, by omega⟩ ?_
    refine z_aload_n K dL_law_841 rfl ?_
    refine z_iload_n K dL_law_842 rfl ?_
    refine z_iconst K dL_law_843 ?_
    refine z_iadd K dL_law_844 ?_
    refine z_sld K X dL_law_845 (i + 2) (by omega) ⟨by omega, by omega⟩ ?_
    refine z_aload_n K dL_law_846 rfl ?_
    refine z_iload_n K dL_law_847 rfl ?_
    refine z_iconst K dL_law_848 ?_
    refine z_iadd K dL_law_849 ?_
    refine z_sld K X dL_law_850 (i + 3) (by omega) ⟨by omega, by omega⟩ ?_
    refine z_ifeq (tgt := 858) K dL_law_851 (by decide) (zi_rg _) (fun h9 => absurd h9 h824) (fun _ => ?_)
    refine z_iconst K dL_law_854 ?_
    refine z_goto (tgt := 859) K dL_law_855 (by decide) ?_
    refine z_callVG K hl1 hg1 (kb := 39) (As := [.int (zi ((xs (i + 1)).toInt)), .int (zi ((xs (i + 2)).toInt)), .int (zi (1 : Int))]) (rest := [.int r]) C2 (by decide) lk_L_122 cd_X9_hawks rfl rfl rfl rfl (Nat.le_of_ble_eq_true rfl) dL_law_859 (by rw [hrc]; exact ⟨Nat.le_refl _, Nat.le_refl _⟩) (fun v2 ν2 hv2 => ?_)
    obtain ⟨rfl, hI2⟩ := hQ v2 ν2 hv2
    show zV χ 4 ad zSH 56 1213 862 [(0, .ref b), (1, .ref (ad 0)), (2, .ref (ad 39)), (3, .int (zi ((i : Nat) : Int)))] [.int r, .int r] ν2
    refine z_same (tgt := 990) K dL_law_862 (by decide) ?_
    exact kk ν2 hI2
set_option maxHeartbeats 4000000 in
theorem law_c25 {χ : zX} {la : Launch} {g0 : zG} {ad : Nat → Nat} {b L i : Nat} {xs : Nat → Int32} {μ : zMem} (K : zOk χ cL_law RL 4 11 (some .boolean)) (hrc : zrcs χ = (56, 1213)) (hl1 : χ.2.1 = la) (hg1 : χ.2.2.2.2.2.2.2.2.2.2.1 = g0) (X : zSx χ b L xs) (hL : L ≤ 256) (hi : i + 4 ≤ L) (hI : zInv μ) (kk : ∀ ν, zInv ν → zV χ 4 ad zSH 56 1213 990 [(0, .ref b), (1, .ref (ad 0)), (2, .ref (ad 39)), (3, .int (zi ((i : Nat) : Int)))] [] ν) : zV χ 4 ad zSH 56 1213 867 [(0, .ref b), (1, .ref (ad 0)), (2, .ref (ad 39)), (3, .int (zi ((i : Nat) : Int)))] [] μ := by
  refine z_aload_n K dL_law_867 rfl ?_
  refine z_aload_n K dL_law_868 rfl ?_
  refine z_iload_n K dL_law_869 rfl ?_
  refine z_iconst K dL_law_870 ?_
  refine z_iadd K dL_law_871 ?_
  refine z_sld K X dL_law_872 (i + 1) (by omega) ⟨by omega, by omega⟩ ?_
  refine z_i2l K dL_law_873 (zi_rg _) ?_
  refine z_bipush K dL_law_874 (by decide +kernel) ?_
  refine z_lshlR (z := zl ((xs (i + 1)).toInt) <<< ((zi 32).toInt64 &&& 63)) K dL_law_876 rfl ?_
  refine z_aload_n K dL_law_877 rfl ?_
  refine z_iload_n K dL_law_878 rfl ?_
  refine z_iconst K dL_law_879 ?_
  refine z_iadd K dL_law_880 ?_
  refine z_sld K X dL_law_881 (i + 2) (by omega) ⟨by omega, by omega⟩ ?_
  refine z_i2l K dL_law_882 (zi_rg _) ?_
  refine z_ldc2 (z := 4294967295) K dL_law_883 kc_L_89 rfl ?_
  refine z_landR K dL_law_886 ?_
  refine z_lorR K dL_law_887 ?_
  refine z_topl (x := zlo ((xs (i + 1)).toInt) ((xs (i + 2)).toInt)) ?_
  obtain ⟨Po1, C1, hP⟩ := st_seed la g0 ad hI ((zlo ((xs (i + 1)).toInt) ((xs (i + 2)).toInt)).toInt) 
  refine z_callVG K hl1 hg1 (kb := 0) (As := [.long (zl ((zlo ((xs (i + 1)).toInt) ((xs (i + 2)).toInt)).toInt))]) (rest := []) C1 (by decide) lk_L_123 cd_X8_seed rfl rfl rfl rfl (Nat.le_of_ble_eq_true rfl) dL_law_888 (by rw [hrc]; exact ⟨Nat.le_refl _, Nat.le_refl _⟩) (fun v ν hv => ?_)
  obtain ⟨r, Po2, rfl, C2, hQ⟩ := hP v ν hv
  show zV χ 4 ad zSH 56 1213 891 [(0, .ref b), (1, .ref (ad 0)), (2, .ref (ad 39)), (3, .int (zi ((i : Nat) : Int)))] [.long r] ν
  refine z_aload_n K dL_law_891 rfl ?_
  refine z_aload_n K dL_law_892 rfl ?_
  refine z_iload_n K dL_law_893 rfl ?_
  refine z_iconst K dL_law_894 ?_
  refine z_iadd K dL_law_895 ?_
  refine z_sld K X dL_law_896 (i + 1) (by omega) ⟨by omega, by omega⟩ ?_
  refine z_i2l K dL_law_897 (zi_rg _) ?_
  refine z_bipush K dL_law_898 (by decide +kernel) ?_
  refine z_lshlR (z := zl ((xs (i + 1)).toInt) <<< ((zi 32).toInt64 &&& 63)) K dL_law_900 rfl ?_
  refine z_aload_n K dL_law_901 rfl ?_
  refine z_iload_n K dL_law_902 rfl ?_
  refine z_iconst K dL_law_903 ?_
  refine z_iadd K dL_law_904 ?_
  refine z_sld K X dL_law_905 (i + 2) (by omega) ⟨by omega, by omega⟩ ?_
  refine z_i2l K dL_law_906 (zi_rg _) ?_
  refine z_ldc2 (z := 4294967295) K dL_law_907 kc_L_89 rfl ?_
  refine z_landR K dL_law_910 ?_
  refine z_lorR K dL_law_911 ?_
  refine z_topl (x := zlo ((xs (i + 1)).toInt) ((xs (i + 2)).toInt)) ?_
  refine z_callVG K hl1 hg1 (kb := 39) (As := [.long (zl ((zlo ((xs (i + 1)).toInt) ((xs (i + 2)).toInt)).toInt))]) (rest := [.long r]) C2 (by decide) lk_L_127 cd_X9_seed rfl rfl rfl rfl (Nat.le_of_ble_eq_true rfl) dL_law_912 (by rw [hrc]; exact ⟨Nat.le_refl _, Nat.le_refl _⟩) (fun v2 ν2 hv2 => ?_)
  obtain ⟨rfl, hI2⟩ := hQ v2 ν2 hv2
  show zV χ 4 ad zSH 56 1213 915 [(0, .ref b), (1, .ref (ad 0)), (2, .ref (ad 39)), (3, .int (zi ((i : Nat) : Int)))] [.long r, .long r] ν2
  refine z_sameL K dL_law_915 ?_
  refine z_ifeq (tgt := 990) K dL_law_916 (by decide) ⟨by decide, by decide⟩ (fun _ => ?_) (fun h9 => absurd rfl h9)
  exact kk ν2 hI2
set_option maxHeartbeats 4000000 in
theorem law_c26 {χ : zX} {la : Launch} {g0 : zG} {ad : Nat → Nat} {b L i : Nat} {xs : Nat → Int32} {μ : zMem} (K : zOk χ cL_law RL 4 11 (some .boolean)) (hrc : zrcs χ = (56, 1213)) (hl1 : χ.2.1 = la) (hg1 : χ.2.2.2.2.2.2.2.2.2.2.1 = g0) (X : zSx χ b L xs) (hL : L ≤ 256) (hi : i + 4 ≤ L) (hI : zInv μ) (kk : ∀ ν, zInv ν → zV χ 4 ad zSH 56 1213 990 [(0, .ref b), (1, .ref (ad 0)), (2, .ref (ad 39)), (3, .int (zi ((i : Nat) : Int)))] [] ν) : zV χ 4 ad zSH 56 1213 921 [(0, .ref b), (1, .ref (ad 0)), (2, .ref (ad 39)), (3, .int (zi ((i : Nat) : Int)))] [] μ := by
  refine z_aload_n K dL_law_921 rfl ?_
  refine z_aload_n K dL_law_922 rfl ?_
  refine z_iload_n K dL_law_923 rfl ?_
  refine z_iconst K dL_law_924 ?_
  refine z_iadd K dL_law_925 ?_
  refine z_sld K X dL_law_926 (i + 1) (by omega) ⟨by omega, by omega⟩ ?_
  obtain ⟨Po1, C1, hP⟩ := st_years la g0 ad hI ((xs (i + 1)).toInt) (zi_rg _)
  refine z_callVG K hl1 hg1 (kb := 0) (As := [.int (zi ((xs (i + 1)).toInt))]) (rest := []) C1 (by decide) lk_L_128 cd_X8_years rfl rfl rfl rfl (Nat.le_of_ble_eq_true rfl) dL_law_927 (by rw [hrc]; exact ⟨Nat.le_refl _, Nat.le_refl _⟩) (fun v ν hv => ?_)
  obtain ⟨r, Po2, rfl, C2, hQ⟩ := hP v ν hv
  show zV χ 4 ad zSH 56 1213 930 [(0, .ref b), (1, .ref (ad 0)), (2, .ref (ad 39)), (3, .int (zi ((i : Nat) : Int)))] [.int r] ν
  refine z_aload_n K dL_law_930 rfl ?_
  refine z_aload_n K dL_law_931 rfl ?_
  refine z_iload_n K dL_law_932 rfl ?_
  refine z_iconst K dL_law_933 ?_
  refine z_iadd K dL_law_934 ?_
  refine z_sld K X dL_law_935 (i + 1) (by omega) ⟨by omega, by omega⟩ ?_
  refine z_callVG K hl1 hg1 (kb := 39) (As := [.int (zi ((xs (i + 1)).toInt))]) (rest := [.int r]) C2 (by decide) lk_L_131 cd_X9_years rfl rfl rfl rfl (Nat.le_of_ble_eq_true rfl) dL_law_936 (by rw [hrc]; exact ⟨Nat.le_refl _, Nat.le_refl _⟩) (fun v2 ν2 hv2 => ?_)
  obtain ⟨rfl, hI2⟩ := hQ v2 ν2 hv2
  show zV χ 4 ad zSH 56 1213 939 [(0, .ref b), (1, .ref (ad 0)), (2, .ref (ad 39)), (3, .int (zi ((i : Nat) : Int)))] [.int r, .int r] ν2
  refine z_same (tgt := 990) K dL_law_939 (by decide) ?_
  exact kk ν2 hI2
set_option maxHeartbeats 4000000 in
theorem law_c27 {χ : zX} {la : Launch} {g0 : zG} {ad : Nat → Nat} {b L i : Nat} {xs : Nat → Int32} {μ : zMem} (K : zOk χ cL_law RL 4 11 (some .boolean)) (hrc : zrcs χ = (56, 1213)) (hl1 : χ.2.1 = la) (hg1 : χ.2.2.2.2.2.2.2.2.2.2.1 = g0) (X : zSx χ b L xs) (hL : L ≤ 256) (hi : i + 4 ≤ L) (hI : zInv μ) (kk : ∀ ν, zInv ν → zV χ 4 ad zSH 56 1213 990 [(0, .ref b), (1, .ref (ad 0)), (2, .ref (ad 39)), (3, .int (zi ((i : Nat) : Int)))] [] ν) : zV χ 4 ad zSH 56 1213 944 [(0, .ref b), (1, .ref (ad 0)), (2, .ref (ad 39)), (3, .int (zi ((i : Nat) : Int)))] [] μ := by
  refine z_aload_n K dL_law_944 rfl ?_
  refine z_aload_n K dL_law_945 rfl ?_
  refine z_iload_n K dL_law_946 rfl ?_
  refine z_iconst K dL_law_947 ?_
  refine z_iadd K dL_law_948 ?_
  refine z_sld K X dL_law_949 (i + 1) (by omega) ⟨by omega, by omega⟩ ?_
  obtain ⟨Po1, C1, hP⟩ := st_keep la g0 ad hI ((xs (i + 1)).toInt) (zi_rg _)
  refine z_callVG K hl1 hg1 (kb := 0) (As := [.int (zi ((xs (i + 1)).toInt))]) (rest := []) C1 (by decide) lk_L_132 cd_X8_keep rfl rfl rfl rfl (Nat.le_of_ble_eq_true rfl) dL_law_950 (by rw [hrc]; exact ⟨Nat.le_refl _, Nat.le_refl _⟩) (fun v ν hv => ?_)
  obtain ⟨r, Po2, rfl, C2, hQ⟩ := hP v ν hv
  show zV χ 4 ad zSH 56 1213 953 [(0, .ref b), (1, .ref (ad 0)), (2, .ref (ad 39)), (3, .int (zi ((i : Nat) : Int)))] [.int r] ν
  refine z_aload_n K dL_law_953 rfl ?_
  refine z_aload_n K dL_law_954 rfl ?_
  refine z_iload_n K dL_law_955 rfl ?_
  refine z_iconst K dL_law_956 ?_
  refine z_iadd K dL_law_957 ?_
  refine z_sld K X dL_law_958 (i + 1) (by omega) ⟨by omega, by omega⟩ ?_
  refine z_callVG K hl1 hg1 (kb := 39) (As := [.int (zi ((xs (i + 1)).toInt))]) (rest := [.int r]) C2 (by decide) lk_L_135 cd_X9_keep rfl rfl rfl rfl (Nat.le_of_ble_eq_true rfl) dL_law_959 (by rw [hrc]; exact ⟨Nat.le_refl _, Nat.le_refl _⟩) (fun v2 ν2 hv2 => ?_)
  obtain ⟨rfl, hI2⟩ := hQ v2 ν2 hv2
  show zV χ 4 ad zSH 56 1213 962 [(0, .ref b), (1, .ref (ad 0)), (2, .ref (ad 39)), (3, .int (zi ((i : Nat) : Int)))] [.int r, .int r] ν2
  refine z_same (tgt := 990) K dL_law_962 (by decide) ?_
  exact kk ν2 hI2
set_option maxHeartbeats 4000000 in
theorem law_c28 {χ : zX} {la : Launch} {g0 : zG} {ad : Nat → Nat} {b L i : Nat} {xs : Nat → Int32} {μ : zMem} (K : zOk χ cL_law RL 4 11 (some .boolean)) (hrc : zrcs χ = (56, 1213)) (hl1 : χ.2.1 = la) (hg1 : χ.2.2.2.2.2.2.2.2.2.2.1 = g0) (X : zSx χ b L xs) (hL : L ≤ 256) (hi : i + 4 ≤ L) (hI : zInv μ) (kk : ∀ ν, zInv ν → zV χ 4 ad zSH 56 1213 990 [(0, .ref b), (1, .ref (ad 0)), (2, .ref (ad 39)), (3, .int (zi ((i : Nat) : Int)))] [] ν) : zV χ 4 ad zSH 56 1213 967 [(0, .ref b), (1, .ref (ad 0)), (2, .ref (ad 39)), (3, .int (zi ((i : Nat) : Int)))] [] μ := by
  refine z_aload_n K dL_law_967 rfl ?_
  refine z_aload_n K dL_law_968 rfl ?_
  refine z_iload_n K dL_law_969 rfl ?_
  refine z_iconst K dL_law_970 ?_
  refine z_iadd K dL_law_971 ?_
  refine z_sld K X dL_law_972 (i + 1) (by omega) ⟨by omega, by omega⟩ ?_
  obtain ⟨Po1, C1, hP⟩ := st_again la g0 ad hI ((xs (i + 1)).toInt) (zi_rg _)
  refine z_callVG K hl1 hg1 (kb := 0) (As := [.int (zi ((xs (i + 1)).toInt))]) (rest := []) C1 (by decide) lk_L_136 cd_X8_again rfl rfl rfl rfl (Nat.le_of_ble_eq_true rfl) dL_law_973 (by rw [hrc]; exact ⟨Nat.le_refl _, Nat.le_refl _⟩) (fun v ν hv => ?_)
  obtain ⟨r, Po2, rfl, C2, hQ⟩ := hP v ν hv
  show zV χ 4 ad zSH 56 1213 976 [(0, .ref b), (1, .ref (ad 0)), (2, .ref (ad 39)), (3, .int (zi ((i : Nat) : Int)))] [.int r] ν
  refine z_aload_n K dL_law_976 rfl ?_
  refine z_aload_n K dL_law_977 rfl ?_
  refine z_iload_n K dL_law_978 rfl ?_
  refine z_iconst K dL_law_979 ?_
  refine z_iadd K dL_law_980 ?_
  refine z_sld K X dL_law_981 (i + 1) (by omega) ⟨by omega, by omega⟩ ?_
  refine z_callVG K hl1 hg1 (kb := 39) (As := [.int (zi ((xs (i + 1)).toInt))]) (rest := [.int r]) C2 (by decide) lk_L_139 cd_X9_again rfl rfl rfl rfl (Nat.le_of_ble_eq_true rfl) dL_law_982 (by rw [hrc]; exact ⟨Nat.le_refl _, Nat.le_refl _⟩) (fun v2 ν2 hv2 => ?_)
  obtain ⟨rfl, hI2⟩ := hQ v2 ν2 hv2
  show zV χ 4 ad zSH 56 1213 985 [(0, .ref b), (1, .ref (ad 0)), (2, .ref (ad 39)), (3, .int (zi ((i : Nat) : Int)))] [.int r, .int r] ν2
  refine z_same (tgt := 990) K dL_law_985 (by decide) ?_
  exact kk ν2 hI2
