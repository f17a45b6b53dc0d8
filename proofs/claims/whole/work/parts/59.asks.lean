theorem st_fault (la : Launch) (g0 : zG) (ad : Nat → Nat) {μ : zMem} (hI : zInv μ)   : zStI la g0 ad μ yX8_fault cX8_fault 1 5 [] yX9_fault cX9_fault 1 5 [] := by
  obtain ⟨n, nc, t, f, k, td, hI⟩ := hI
  have hy : ∀ i, i < t → 0 ≤ μ 2 i ∧ μ 2 i ≤ 255 := fun i hi => by rw [← hI.1.2.2.2.1 i hi]; exact hI.1.2.2.2.2 i (by have := hI.1.2.1; omega)
  have hX : ∀ ν : zMem, zI ν n nc t f k td → (∀ q, ¬ zScr q → ν q = μ q) → zCon la g0 yX9_fault cX9_fault 1 (some .int) 5 ad zSH [.ref (ad 39)] ν (zPi (zQm ν (zfault (μ 2) t))) := by
    intro ν hI2 hf
    have h := cq_fault la g0 ad ν t hI2.1.2.2.1 hI2.1.2.1 hI2.1.2.2.2.2
    rw [show zfault (ν 40) t = zfault (μ 2) t from zfault_cg (fun i hi => by rw [hI2.1.2.2.2.1 i hi, hf 2 (by unfold zScr; omega)])] at h
    exact h
  exact st_qu hI (cp_fault la g0 ad μ t hI.1.1 hI.1.2.1 hy) (fun ν hm hg hI2 hf => hX ν hI2 hf)
theorem st_about (la : Launch) (g0 : zG) (ad : Nat → Nat) {μ : zMem} (hI : zInv μ) (x : Int) (hx : zR x) : zStI la g0 ad μ yX8_about cX8_about 2 2 [.int (zi x)] yX9_about cX9_about 2 3 [.int (zi x)] := by
  obtain ⟨n, nc, t, f, k, td, hI⟩ := hI
  have hX := cq_about la g0 ad μ n nc (μ 13) (μ 14) (μ 12) (μ 16) (μ 18) hI.2.1.2 hI.2.2.1.1 hI.2.2.1.2 x hx
  rw [show μ 39 17 = μ 28 2 from hI.2.2.2.1.2.2.2.2.2.1.trans hI.2.2.2.1.2.2.1.symm, show μ 39 20 = μ 34 2 from hI.2.2.2.2.2.1.2.2.1.trans hI.2.2.2.2.2.1.1.symm, show μ 39 2 = μ 1 1 from hI.1.2.2.1.trans hI.1.1.symm] at hX
  exact st_qd hI (cp_about la g0 ad μ n nc hI.2.1.1 hI.2.2.1.1 x hx) (hX)
theorem st_letter (la : Launch) (g0 : zG) (ad : Nat → Nat) {μ : zMem} (hI : zInv μ) (x : Int) (w : Int) (hx : zR x) (hw : zR w) : zStI la g0 ad μ yX8_letter cX8_letter 3 1 [.int (zi x), .int (zi w)] yX9_letter cX9_letter 3 3 [.int (zi x), .int (zi w)] := by
  obtain ⟨n, nc, t, f, k, td, hI⟩ := hI
  exact st_qd hI (cp_letter la g0 ad μ n nc hI.2.1.1 hI.2.2.1.1 x w hx hw) (cq_letter la g0 ad μ n nc (μ 13) (μ 14) (μ 12) (μ 16) (μ 18) hI.2.1.2 hI.2.2.1.1 hI.2.2.1.2 x w hx hw)
theorem st_clerk (la : Launch) (g0 : zG) (ad : Nat → Nat) {μ : zMem} (hI : zInv μ) (x : Int) (w : Int) (hx : zR x) (hw : zR w) : zStI la g0 ad μ yX8_clerk cX8_clerk 3 1 [.int (zi x), .int (zi w)] yX9_clerk cX9_clerk 3 3 [.int (zi x), .int (zi w)] := by
  obtain ⟨n, nc, t, f, k, td, hI⟩ := hI
  exact st_qd hI (cp_clerk la g0 ad μ n nc hI.2.1.1 hI.2.2.1.1 x w hx hw) (cq_clerk la g0 ad μ n nc (μ 13) (μ 14) (μ 12) (μ 16) (μ 18) hI.2.1.2 hI.2.2.1.1 hI.2.2.1.2 x w hx hw)
theorem st_hole (la : Launch) (g0 : zG) (ad : Nat → Nat) {μ : zMem} (hI : zInv μ) (x : Int) (hx : zR x) : zStI la g0 ad μ yX8_hole cX8_hole 2 1 [.int (zi x)] yX9_hole cX9_hole 2 3 [.int (zi x)] := by
  obtain ⟨n, nc, t, f, k, td, hI⟩ := hI
  exact st_qd hI (cp_hole la g0 ad μ n nc hI.2.1.1 hI.2.2.1.1 x hx) (cq_hole la g0 ad μ n nc (μ 13) (μ 14) (μ 12) (μ 16) (μ 18) hI.2.1.2 hI.2.2.1.1 hI.2.2.1.2 x hx)
theorem st_ahead (la : Launch) (g0 : zG) (ad : Nat → Nat) {μ : zMem} (hI : zInv μ) (x : Int) (w : Int) (hx : zR x) (hw : zR w) : zStI la g0 ad μ yX8_ahead cX8_ahead 3 5 [.int (zi x), .int (zi w)] yX9_ahead cX9_ahead 3 7 [.int (zi x), .int (zi w)] := by
  obtain ⟨n, nc, t, f, k, td, hI⟩ := hI
  exact st_qu hI (cp_ahead la g0 ad μ n nc hI.2.1.1 hI.2.2.1.1 x w hx hw) (fun ν hm hg hI2 hf => cq_ahead la g0 ad ν n nc (μ 13) (μ 14) (μ 12) (μ 16) (μ 18) hm hI.2.2.1.1 hg x w hx hw)
theorem st_hatches (la : Launch) (g0 : zG) (ad : Nat → Nat) {μ : zMem} (hI : zInv μ) (x : Int) (hx : zR x) : zStI la g0 ad μ yX8_hatches cX8_hatches 3 5 [.int (zi x)] yX9_hatches cX9_hatches 2 7 [.int (zi x)] := by
  obtain ⟨n, nc, t, f, k, td, hI⟩ := hI
  exact st_qu hI (cp_hatches la g0 ad μ n nc hI.2.1.1 hI.2.2.1.1 x hx) (fun ν hm hg hI2 hf => cq_hatches la g0 ad ν n nc (μ 13) (μ 14) (μ 12) (μ 16) (μ 18) hm hI.2.2.1.1 hg x hx)
theorem st_rows (la : Launch) (g0 : zG) (ad : Nat → Nat) {μ : zMem} (hI : zInv μ) (x : Int) (hx : x = 0 ∨ x = 1) : zStI la g0 ad μ yX8_rows cX8_rows 2 5 [.int (zi x)] yX9_rows cX9_rows 6 7 [.int (zi x)] := by
  obtain ⟨n, nc, t, f, k, td, hI⟩ := hI
  exact st_qu hI (cp_rows la g0 ad μ n nc hI.2.1.1 hI.2.2.1.1 x hx) (fun ν hm hg hI2 hf => cq_rows la g0 ad ν n nc (μ 13) (μ 14) (μ 12) (μ 16) (μ 18) hm hI.2.2.1.1 hg x hx)
theorem st_saved (la : Launch) (g0 : zG) (ad : Nat → Nat) {μ : zMem} (hI : zInv μ) (x : Int) (hx : zR x) : zStI la g0 ad μ yX8_saved cX8_saved 2 6 [.int (zi x)] yX9_saved cX9_saved 6 7 [.int (zi x)] := by
  obtain ⟨n, nc, t, f, k, td, hI⟩ := hI
  exact st_qu hI (cp_saved la g0 ad μ n nc hI.2.1.1 hI.2.2.1.1 x hx) (fun ν hm hg hI2 hf => cq_saved la g0 ad ν n nc (μ 13) (μ 14) (μ 12) (μ 16) (μ 18) hm hI.2.2.1.1 hg x hx)
theorem st_quiet (la : Launch) (g0 : zG) (ad : Nat → Nat) {μ : zMem} (hI : zInv μ)   : zStI la g0 ad μ yX8_quiet cX8_quiet 1 6 [] yX9_quiet cX9_quiet 5 7 [] := by
  obtain ⟨n, nc, t, f, k, td, hI⟩ := hI
  exact st_qu hI (cp_quiet la g0 ad μ n nc hI.2.1.1 hI.2.2.1.1  ) (fun ν hm hg hI2 hf => cq_quiet la g0 ad ν n nc (μ 13) (μ 14) (μ 12) (μ 16) (μ 18) hm hI.2.2.1.1 hg  )
theorem st_judge (la : Launch) (g0 : zG) (ad : Nat → Nat) {μ : zMem} (hI : zInv μ) (x : Int) (w : Int) (hx : zR x) (hw : zR8 w) : zStI la g0 ad μ yX8_judge cX8_judge 4 6 [.int (zi x), .long (zl w)] yX9_judge cX9_judge 5 7 [.int (zi x), .long (zl w)] := by
  obtain ⟨n, nc, t, f, k, td, hI⟩ := hI
  exact st_qu hI (cp_judge la g0 ad μ n nc hI.2.1.1 hI.2.2.1.1 x w hx hw) (fun ν hm hg hI2 hf => cq_judge la g0 ad ν n nc (μ 13) (μ 14) (μ 12) (μ 16) (μ 18) hm hI.2.2.1.1 hg x w hx hw)
theorem st_share (la : Launch) (g0 : zG) (ad : Nat → Nat) {μ : zMem} (hI : zInv μ) (x : Int) (w : Int) (hx : zR x) (hw : w = 0 ∨ w = 1) : zStI la g0 ad μ yX8_share cX8_share 3 6 [.int (zi x), .int (zi w)] yX9_share cX9_share 6 7 [.int (zi x), .int (zi w)] := by
  obtain ⟨n, nc, t, f, k, td, hI⟩ := hI
  exact st_qu hI (cp_share la g0 ad μ n nc hI.2.1.1 hI.2.2.1.1 x w hx hw) (fun ν hm hg hI2 hf => cq_share la g0 ad ν n nc (μ 13) (μ 14) (μ 12) (μ 16) (μ 18) hm hI.2.2.1.1 hg x w hx hw)
theorem st_rests (la : Launch) (g0 : zG) (ad : Nat → Nat) {μ : zMem} (hI : zInv μ) (x : Int) (w : Int) (v : Int) (hx : zR x) (hw : zR w) (hv : zR v) : zStI la g0 ad μ yX8_rests cX8_rests 4 6 [.int (zi x), .int (zi w), .int (zi v)] yX9_rests cX9_rests 7 8 [.int (zi x), .int (zi w), .int (zi v)] := by
  obtain ⟨n, nc, t, f, k, td, hI⟩ := hI
  exact st_qu hI (cp_rests la g0 ad μ n nc hI.2.1.1 hI.2.2.1.1 x w v hx hw hv) (fun ν hm hg hI2 hf => cq_rests la g0 ad ν n nc (μ 13) (μ 14) (μ 12) (μ 16) (μ 18) hm hI.2.2.1.1 hg x w v hx hw hv)
theorem st_hawks (la : Launch) (g0 : zG) (ad : Nat → Nat) {μ : zMem} (hI : zInv μ) (x : Int) (w : Int) (v : Int) (hx : zR x) (hw : zR w) (hv : v = 0 ∨ v = 1) : zStI la g0 ad μ yX8_hawks cX8_hawks 4 3 [.int (zi x), .int (zi w), .int (zi v)] yX9_hawks cX9_hawks 8 3 [.int (zi x), .int (zi w), .int (zi v)] := by
  obtain ⟨n, nc, t, f, k, td, hI⟩ := hI
  exact st_qu hI (cp_hawks la g0 ad μ n nc hI.2.1.1 hI.2.2.1.1 x w v hx hw hv) (fun ν hm hg hI2 hf => cq_hawks la g0 ad ν n nc (μ 13) (μ 14) (μ 12) (μ 16) (μ 18) hm hI.2.2.1.1 hg x w v hx hw hv)
theorem st_may (la : Launch) (g0 : zG) (ad : Nat → Nat) {μ : zMem} (hI : zInv μ) (x : Int) (hx : zR x) : zStI la g0 ad μ yX8_may cX8_may 2 3 [.int (zi x)] yX9_may cX9_may 7 1 [.int (zi x)] := by
  obtain ⟨n, nc, t, f, k, td, hI⟩ := hI
  have hX := cq_may la g0 ad μ td hI.2.2.2.2.2.1.2.2.1 hI.2.2.2.2.2.1.2.1 (fun i hi => by have := hI.2.2.2.2.2.1.2.2.2 i hi; rw [this.1, this.2.1]; exact this.2.2) x hx
  rw [show zA_may (μ 51) (μ 52) td x = zA_may (μ 35) (μ 36) td x from zmay_cg x (fun i hi => ⟨(hI.2.2.2.2.2.1.2.2.2 i hi).1, (hI.2.2.2.2.2.1.2.2.2 i hi).2.1⟩)] at hX
  exact st_qd hI (cp_may la g0 ad μ td hI.2.2.2.2.2.1.1 hI.2.2.2.2.2.1.2.1 (fun i hi => (hI.2.2.2.2.2.1.2.2.2 i hi).2.2) x hx) (hX)
