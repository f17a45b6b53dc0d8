set_option maxHeartbeats 4000000 in
set_option maxRecDepth 100000 in
theorem ct_hatch_n (la : Launch) (g0 : zG) (ad : Nat → Nat) (μ : zMem) (n nc : Nat) (hp : zPlan μ n nc) (hv : zHW n nc (μ 18)) (l : Nat) (hl : l < n) : zCon la g0 yX1_hatch cX1_hatch 4 none 0 ad zSH [.ref (ad 17), .int (zi ((l : Nat) : Int))] μ (zPm (zup μ 18 (zhat n (μ 13) (μ 18) l))) := by
  refine zCon_of (by decide +kernel) (Nat.le_of_ble_eq_true rfl) ?_
  intro χ K T hl1 hg1
  have K : zOk χ cX1_hatch RX1 4 0 none := K
  obtain ⟨hn, hn6, hnc, hnc3, hpl, hpk⟩ := id hp
  have hvl := hv.1 l hl
  have hpp := hpl l hl
  have hw := zHW_fate hn6 hv hl (v := 2) ⟨by decide, by decide⟩
  refine z_mem (ν := zup μ 18 (μ 18)) (zup_id μ 18) ?_
  show zV χ 4 ad zSH 0 0 0 [(0, .ref (ad 17)), (1, .int (zi ((l : Nat) : Int)))] [] (zup μ 18 (μ 18))
  refine z_aload_n K dX1_hatch_0 rfl ?_
  refine z_get (k := 17) (v := .ref (ad 18)) K dX1_hatch_1 fl_X1_11 rfl rfl rfl ?_
  refine z_bipush K dX1_hatch_4 (by decide +kernel) ?_
  refine z_iload_n K dX1_hatch_6 rfl ?_
  refine z_iadd K dX1_hatch_7 ?_
  refine z_iconst K dX1_hatch_8 ?_
  refine z_iast (k := 18) K dX1_hatch_9 (12 + l) rfl (by decide) (by omega) (by omega) (z_mem (ν := zup μ 18 (zu1 (μ 18) (12 + l) (2 : Int))) (zup_same _ _ _ _) ?_)
  refine z_aload_n K dX1_hatch_10 rfl ?_
  refine z_get (k := 17) (v := .ref (ad 18)) K dX1_hatch_11 fl_X1_11 rfl rfl rfl ?_
  refine z_iconst K dX1_hatch_14 ?_
  refine z_iload_n K dX1_hatch_15 rfl ?_
  refine z_iadd K dX1_hatch_16 ?_
  refine z_iald (k := 18) (v := μ 18 l) K dX1_hatch_17 l rfl (by decide) (by omega) (by omega) (zu1_ne _ _ (by omega)) ?_
  refine z_istore_n (lv' := [(0, .ref (ad 17)), (1, .int (zi ((l : Nat) : Int))), (2, .int (zi (μ 18 l)))]) K dX1_hatch_18 (by decide) rfl ?_
  refine z_aload_n K dX1_hatch_19 rfl ?_
  refine z_get (k := 17) (v := .ref (ad 10)) K dX1_hatch_20 fl_X1_18 rfl rfl rfl ?_
  refine z_get (k := 10) (v := .ref (ad 13)) K dX1_hatch_23 fl_X1_61 rfl rfl rfl ?_
  refine z_iload_n K dX1_hatch_26 rfl ?_
  refine z_iald (k := 13) (v := μ 13 l) K dX1_hatch_27 l rfl (by decide) (by omega) (by omega) rfl ?_
  refine z_iconst K dX1_hatch_28 ?_
  refine z_icmpne (tgt := 37) K dX1_hatch_29 (by decide) (by omega) ⟨by decide, by decide⟩ (fun h29 => ?_) (fun h29 => ?_)
  · exact z_vretd K T rfl dX1_hatch_37 (by unfold zhat; rw [if_neg (by omega)])
  · refine z_iload_n K dX1_hatch_32 rfl ?_
    refine z_iconst K dX1_hatch_33 ?_
    refine z_icmpge (tgt := 38) K dX1_hatch_34 (by decide) (by omega) ⟨by decide, by decide⟩ (fun h34 => ?_) (fun h34 => ?_)
    · refine z_iconst K dX1_hatch_38 ?_
      refine z_istore_n (lv' := [(0, .ref (ad 17)), (1, .int (zi ((l : Nat) : Int))), (2, .int (zi (μ 18 l))), (3, .int (zi (0 : Int)))]) K dX1_hatch_39 (by decide) rfl ?_
      have L40 : ∀ o, o ≤ n → zV χ 4 ad zSH 0 0 40 [(0, .ref (ad 17)), (1, .int (zi ((l : Nat) : Int))), (2, .int (zi (μ 18 l))), (3, .int (zi ((o : Nat) : Int)))] [] (zup μ 18 (zpo (zu1 (μ 18) (12 + l) 2) (μ 18 l) o)) := by
        refine zfor ?_
        intro o ho ih
        have hwo := zpo_ok hn6 hw (x := μ 18 l) ⟨by omega, by omega⟩ o ho
        refine z_iload_n K dX1_hatch_40 rfl ?_
        refine z_aload_n K dX1_hatch_41 rfl ?_
        refine z_get (k := 17) (v := .ref (ad 10)) K dX1_hatch_42 fl_X1_18 rfl rfl rfl ?_
        refine z_get (k := 10) (v := .int (zi (μ 10 0))) K dX1_hatch_45 fl_X1_22 rfl rfl rfl ?_
        refine z_icmpge (tgt := 92) K dX1_hatch_48 (by decide) (by omega) (by omega) (fun h48 => ?_) (fun h48 => ?_)
        · exact z_vretd K T rfl dX1_hatch_92 (by unfold zhat; rw [if_pos ⟨by omega, by omega⟩, show n = o by omega])
        · have hwl := hwo.1 o (by omega)
          refine z_aload_n K dX1_hatch_51 rfl ?_
          refine z_get (k := 17) (v := .ref (ad 18)) K dX1_hatch_52 fl_X1_11 rfl rfl rfl ?_
          refine z_bipush K dX1_hatch_55 (by decide +kernel) ?_
          refine z_iload_n K dX1_hatch_57 rfl ?_
          refine z_iadd K dX1_hatch_58 ?_
          refine z_iald (k := 18) (v := (zpo (zu1 (μ 18) (12 + l) 2) (μ 18 l) o) (12 + o)) K dX1_hatch_59 (12 + o) rfl (by decide) (by omega) (by omega) rfl ?_
          refine z_ifne (tgt := 86) K dX1_hatch_60 (by decide) (by omega) (fun h60 => ?_) (fun h60 => ?_)
          · refine z_iincN (lv' := [(0, .ref (ad 17)), (1, .int (zi ((l : Nat) : Int))), (2, .int (zi (μ 18 l))), (3, .int (zi ((o + 1 : Nat) : Int)))]) K dX1_hatch_86 rfl (by decide) rfl ?_
            refine z_goto (tgt := 40) K dX1_hatch_89 (by decide) ?_
            have e9 : zpo (zu1 (μ 18) (12 + l) 2) (μ 18 l) (o + 1) = zpo (zu1 (μ 18) (12 + l) 2) (μ 18 l) o := by
              rw [zpo_s]
              rw [if_neg (by omega)]
            have q := ih (o + 1) (by omega) (by omega)
            rw [e9] at q
            exact q
          · refine z_aload_n K dX1_hatch_63 rfl ?_
            refine z_get (k := 17) (v := .ref (ad 18)) K dX1_hatch_64 fl_X1_11 rfl rfl rfl ?_
            refine z_iconst K dX1_hatch_67 ?_
            refine z_iload_n K dX1_hatch_68 rfl ?_
            refine z_iadd K dX1_hatch_69 ?_
            refine z_iald (k := 18) (v := (zpo (zu1 (μ 18) (12 + l) 2) (μ 18 l) o) o) K dX1_hatch_70 o rfl (by decide) (by omega) (by omega) rfl ?_
            refine z_iload_n K dX1_hatch_71 rfl ?_
            refine z_icmpne (tgt := 86) K dX1_hatch_72 (by decide) (by omega) (by omega) (fun h72 => ?_) (fun h72 => ?_)
            · refine z_iincN (lv' := [(0, .ref (ad 17)), (1, .int (zi ((l : Nat) : Int))), (2, .int (zi (μ 18 l))), (3, .int (zi ((o + 1 : Nat) : Int)))]) K dX1_hatch_86 rfl (by decide) rfl ?_
              refine z_goto (tgt := 40) K dX1_hatch_89 (by decide) ?_
              have e9 : zpo (zu1 (μ 18) (12 + l) 2) (μ 18 l) (o + 1) = zpo (zu1 (μ 18) (12 + l) 2) (μ 18 l) o := by
                rw [zpo_s]
                rw [if_neg (by omega)]
              have q := ih (o + 1) (by omega) (by omega)
              rw [e9] at q
              exact q
            · refine z_aload_n K dX1_hatch_75 rfl ?_
              refine z_get (k := 17) (v := .ref (ad 18)) K dX1_hatch_76 fl_X1_11 rfl rfl rfl ?_
              refine z_iconst K dX1_hatch_79 ?_
              refine z_iload_n K dX1_hatch_80 rfl ?_
              refine z_iadd K dX1_hatch_81 ?_
              refine z_iload_n K dX1_hatch_82 rfl ?_
              refine z_iconst K dX1_hatch_83 ?_
              refine z_isub K dX1_hatch_84 ?_
              refine z_iast (k := 18) K dX1_hatch_85 o rfl (by decide) (by omega) (by omega) (z_mem (ν := zup μ 18 (zu1 (zpo (zu1 (μ 18) (12 + l) 2) (μ 18 l) o) o ((μ 18 l) - (4 : Int)))) (zup_same _ _ _ _) ?_)
              refine z_iincN (lv' := [(0, .ref (ad 17)), (1, .int (zi ((l : Nat) : Int))), (2, .int (zi (μ 18 l))), (3, .int (zi ((o + 1 : Nat) : Int)))]) K dX1_hatch_86 rfl (by decide) rfl ?_
              refine z_goto (tgt := 40) K dX1_hatch_89 (by decide) ?_
              have e9 : zpo (zu1 (μ 18) (12 + l) 2) (μ 18 l) (o + 1) = zu1 (zpo (zu1 (μ 18) (12 + l) 2) (μ 18 l) o) o ((μ 18 l) - (4 : Int)) := by
                rw [zpo_s]
                rw [if_pos ⟨by omega, by omega⟩]
              have q := ih (o + 1) (by omega) (by omega)
              rw [e9] at q
              exact q
      exact L40 0 (by omega)
    · exact z_vretd K T rfl dX1_hatch_37 (by unfold zhat; rw [if_neg (by omega)])
