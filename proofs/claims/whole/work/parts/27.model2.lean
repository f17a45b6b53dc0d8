set_option maxHeartbeats 4000000 in
set_option maxRecDepth 100000 in
theorem cm_needs_r (la : Launch) (g0 : zG) (ad : Nat → Nat) (μ : zMem) (n nc S : Nat) (kd al wt an c : Nat → Int) (hm : zMP μ n nc kd al wt an) (hw : zHW n nc c) (hg : zAg n nc S (μ 47) c) (l : Nat) (hl : l < n) : zCon la g0 yX9_needs cX9_needs 5 (some .int) 1 ad zSH [.ref (ad 39), .ref (ad 47), .int (zi ((l : Nat) : Int))] μ (zPd μ (znd n kd al c l)) := by
  refine zCon_of (by decide +kernel) (Nat.le_of_ble_eq_true rfl) ?_
  intro χ K T hl1 hg1
  have K : zOk χ cX9_needs RX9 5 1 (some .int) := K
  obtain ⟨hn, hnc, hpl, hpa, hpk⟩ := id hm
  have hn6 := hpk.1
  have hnc3 := hpk.2.1
  have hpl1 := hpl l hl
  have hpk1 := hpk.2.2.1 l hl
  have agl := hg.1 l hl
  have hwl := hw.1 l hl
  show zV χ 5 ad zSH 0 0 0 [(0, .ref (ad 39)), (1, .ref (ad 47)), (2, .int (zi ((l : Nat) : Int)))] [] μ
  refine z_aload_n K dX9_needs_0 rfl ?_
  refine z_get (k := 39) (v := .ref (ad 42)) K dX9_needs_1 fl_X9_16 rfl rfl rfl ?_
  refine z_iload_n K dX9_needs_4 rfl ?_
  refine z_iald (k := 42) (v := kd l) K dX9_needs_5 l rfl (by decide) (by omega) (by omega) hpl1.2.1 ?_
  refine z_iconst K dX9_needs_6 ?_
  refine z_icmpne (tgt := 20) K dX9_needs_7 (by decide) (by omega) ⟨by decide, by decide⟩ (fun h7 => ?_) (fun h7 => ?_)
  · refine z_aload_n K dX9_needs_20 rfl ?_
    refine z_get (k := 39) (v := .ref (ad 41)) K dX9_needs_21 fl_X9_13 rfl rfl rfl ?_
    refine z_iload_n K dX9_needs_24 rfl ?_
    refine z_iald (k := 41) (v := wt l) K dX9_needs_25 l rfl (by decide) (by omega) (by omega) hpl1.1 ?_
    refine z_istore_n (lv' := [(0, .ref (ad 39)), (1, .ref (ad 47)), (2, .int (zi ((l : Nat) : Int))), (3, .int (zi (wt l)))]) K dX9_needs_26 (by decide) rfl ?_
    refine z_iconst K dX9_needs_27 ?_
    refine z_istore (lv' := [(0, .ref (ad 39)), (1, .ref (ad 47)), (2, .int (zi ((l : Nat) : Int))), (3, .int (zi (wt l))), (4, .int (zi (0 : Int)))]) K dX9_needs_28 (by decide) rfl ?_
    have L30 : ∀ o, o ≤ n → (kd l = 3 ∨ o = 0) → zV χ 5 ad zSH 0 0 30 [(0, .ref (ad 39)), (1, .ref (ad 47)), (2, .int (zi ((l : Nat) : Int))), (3, .int (zi (wt l + (zcnt c l o : Nat)))), (4, .int (zi ((o : Nat) : Int)))] [] μ := by
      refine zfor ?_
      intro o ho ih h3
      have hcn := zcnt_le c l o
      refine z_iload K dX9_needs_30 rfl ?_
      refine z_aload_n K dX9_needs_32 rfl ?_
      refine z_get (k := 39) (v := .int (zi (μ 39 4))) K dX9_needs_33 fl_X9_63 rfl rfl rfl ?_
      refine z_icmpge (tgt := 89) K dX9_needs_36 (by decide) (by omega) (by omega) (fun h36 => ?_) (fun h36 => ?_)
      · refine z_iload_n K dX9_needs_89 rfl ?_
        exact z_iretd K T rfl dX9_needs_90 (by
            have ha : al l = wt l := by rw [hpl1.2.2.1]; unfold zal; rw [if_neg h7]
            unfold znd
            by_cases hk3 : kd l = 3
            · rw [if_pos hk3, ha, show n = o by omega]
            · rw [if_neg hk3, ha, show o = 0 by omega]; unfold zcnt; omega) rfl
      · refine z_aload_n K dX9_needs_39 rfl ?_
        refine z_get (k := 39) (v := .ref (ad 42)) K dX9_needs_40 fl_X9_16 rfl rfl rfl ?_
        refine z_iload_n K dX9_needs_43 rfl ?_
        refine z_iald (k := 42) (v := kd l) K dX9_needs_44 l rfl (by decide) (by omega) (by omega) hpl1.2.1 ?_
        refine z_iconst K dX9_needs_45 ?_
        refine z_icmpne (tgt := 89) K dX9_needs_46 (by decide) (by omega) ⟨by decide, by decide⟩ (fun h46 => ?_) (fun h46 => ?_)
        · refine z_iload_n K dX9_needs_89 rfl ?_
          exact z_iretd K T rfl dX9_needs_90 (by
              have ha : al l = wt l := by rw [hpl1.2.2.1]; unfold zal; rw [if_neg h7]
              unfold znd
              by_cases hk3 : kd l = 3
              · rw [if_pos hk3, ha, show n = o by omega]
              · rw [if_neg hk3, ha, show o = 0 by omega]; unfold zcnt; omega) rfl
        · have ag := hg.1 o (by omega)
          have hwo := hw.1 o (by omega)
          refine z_iload_n K dX9_needs_49 rfl ?_
          refine z_iload K dX9_needs_50 rfl ?_
          refine z_iload_n K dX9_needs_52 rfl ?_
          refine z_icmpeq (tgt := 80) K dX9_needs_53 (by decide) (by omega) (by omega) (fun h53 => ?_) (fun h53 => ?_)
          · refine z_iconst K dX9_needs_80 ?_
            refine z_iadd K dX9_needs_81 ?_
            refine z_istore_n (lv' := [(0, .ref (ad 39)), (1, .ref (ad 47)), (2, .int (zi ((l : Nat) : Int))), (3, .int (zi ((wt l + (zcnt c l o : Nat)) + (0 : Int)))), (4, .int (zi ((o : Nat) : Int)))]) K dX9_needs_82 (by decide) rfl ?_
            refine z_iincN (lv' := [(0, .ref (ad 39)), (1, .ref (ad 47)), (2, .int (zi ((l : Nat) : Int))), (3, .int (zi ((wt l + (zcnt c l o : Nat)) + (0 : Int)))), (4, .int (zi ((o + 1 : Nat) : Int)))]) K dX9_needs_83 rfl (by decide) rfl ?_
            refine z_goto (tgt := 30) K dX9_needs_86 (by decide) ?_
            have e9 : (wt l + (zcnt c l o : Nat)) + (0 : Int) = wt l + (zcnt c l (o + 1) : Nat) := by
              rw [zcnt_s]
              rw [if_neg (by omega)]; omega
            rw [e9]
            exact ih (o + 1) (by omega) (by omega) (Or.inl h46)
          · refine z_aload_n K dX9_needs_56 rfl ?_
            refine z_bipush K dX9_needs_57 (by decide +kernel) ?_
            refine z_iload K dX9_needs_59 rfl ?_
            refine z_iadd K dX9_needs_61 ?_
            refine z_iald (k := 47) (v := c (12 + o)) K dX9_needs_62 (6 + o) rfl (by decide) (by omega) (by omega) ag.2.1 ?_
            refine z_ifne (tgt := 80) K dX9_needs_63 (by decide) (by omega) (fun h63 => ?_) (fun h63 => ?_)
            · refine z_iconst K dX9_needs_80 ?_
              refine z_iadd K dX9_needs_81 ?_
              refine z_istore_n (lv' := [(0, .ref (ad 39)), (1, .ref (ad 47)), (2, .int (zi ((l : Nat) : Int))), (3, .int (zi ((wt l + (zcnt c l o : Nat)) + (0 : Int)))), (4, .int (zi ((o : Nat) : Int)))]) K dX9_needs_82 (by decide) rfl ?_
              refine z_iincN (lv' := [(0, .ref (ad 39)), (1, .ref (ad 47)), (2, .int (zi ((l : Nat) : Int))), (3, .int (zi ((wt l + (zcnt c l o : Nat)) + (0 : Int)))), (4, .int (zi ((o + 1 : Nat) : Int)))]) K dX9_needs_83 rfl (by decide) rfl ?_
              refine z_goto (tgt := 30) K dX9_needs_86 (by decide) ?_
              have e9 : (wt l + (zcnt c l o : Nat)) + (0 : Int) = wt l + (zcnt c l (o + 1) : Nat) := by
                rw [zcnt_s]
                rw [if_neg (by omega)]; omega
              rw [e9]
              exact ih (o + 1) (by omega) (by omega) (Or.inl h46)
            · refine z_aload_n K dX9_needs_66 rfl ?_
              refine z_iload K dX9_needs_67 rfl ?_
              refine z_iald (k := 47) (v := c o) K dX9_needs_69 o rfl (by decide) (by omega) (by omega) ag.1 ?_
              refine z_aload_n K dX9_needs_70 rfl ?_
              refine z_iload_n K dX9_needs_71 rfl ?_
              refine z_iald (k := 47) (v := c l) K dX9_needs_72 l rfl (by decide) (by omega) (by omega) agl.1 ?_
              refine z_icmpne (tgt := 80) K dX9_needs_73 (by decide) (by omega) (by omega) (fun h73 => ?_) (fun h73 => ?_)
              · refine z_iconst K dX9_needs_80 ?_
                refine z_iadd K dX9_needs_81 ?_
                refine z_istore_n (lv' := [(0, .ref (ad 39)), (1, .ref (ad 47)), (2, .int (zi ((l : Nat) : Int))), (3, .int (zi ((wt l + (zcnt c l o : Nat)) + (0 : Int)))), (4, .int (zi ((o : Nat) : Int)))]) K dX9_needs_82 (by decide) rfl ?_
                refine z_iincN (lv' := [(0, .ref (ad 39)), (1, .ref (ad 47)), (2, .int (zi ((l : Nat) : Int))), (3, .int (zi ((wt l + (zcnt c l o : Nat)) + (0 : Int)))), (4, .int (zi ((o + 1 : Nat) : Int)))]) K dX9_needs_83 rfl (by decide) rfl ?_
                refine z_goto (tgt := 30) K dX9_needs_86 (by decide) ?_
                have e9 : (wt l + (zcnt c l o : Nat)) + (0 : Int) = wt l + (zcnt c l (o + 1) : Nat) := by
                  rw [zcnt_s]
                  rw [if_neg (by omega)]; omega
                rw [e9]
                exact ih (o + 1) (by omega) (by omega) (Or.inl h46)
              · refine z_iconst K dX9_needs_76 ?_
                refine z_goto (tgt := 81) K dX9_needs_77 (by decide) ?_
                refine z_iadd K dX9_needs_81 ?_
                refine z_istore_n (lv' := [(0, .ref (ad 39)), (1, .ref (ad 47)), (2, .int (zi ((l : Nat) : Int))), (3, .int (zi ((wt l + (zcnt c l o : Nat)) + (1 : Int)))), (4, .int (zi ((o : Nat) : Int)))]) K dX9_needs_82 (by decide) rfl ?_
                refine z_iincN (lv' := [(0, .ref (ad 39)), (1, .ref (ad 47)), (2, .int (zi ((l : Nat) : Int))), (3, .int (zi ((wt l + (zcnt c l o : Nat)) + (1 : Int)))), (4, .int (zi ((o + 1 : Nat) : Int)))]) K dX9_needs_83 rfl (by decide) rfl ?_
                refine z_goto (tgt := 30) K dX9_needs_86 (by decide) ?_
                have e9 : (wt l + (zcnt c l o : Nat)) + (1 : Int) = wt l + (zcnt c l (o + 1) : Nat) := by
                  rw [zcnt_s]
                  rw [if_pos ⟨by omega, by omega, by omega⟩]; omega
                rw [e9]
                exact ih (o + 1) (by omega) (by omega) (Or.inl h46)
    rw [show wt l = wt l + (zcnt c l 0 : Nat) by unfold zcnt; omega]
    exact L30 0 (by omega) (Or.inr rfl)
  · refine z_aload_n K dX9_needs_10 rfl ?_
    refine z_get (k := 39) (v := .ref (ad 41)) K dX9_needs_11 fl_X9_13 rfl rfl rfl ?_
    refine z_iload_n K dX9_needs_14 rfl ?_
    refine z_iald (k := 41) (v := wt l) K dX9_needs_15 l rfl (by decide) (by omega) (by omega) hpl1.1 ?_
    refine z_callSd K hl1 hg1 (As := [.int (zi (wt l))]) (rest := []) (cm_halfOf la g0 ad μ (wt l) hpl1.2.2.2) (by decide) lk_X9_115 cd_X9_halfOf rfl rfl (Nat.le_of_ble_eq_true rfl) dX9_needs_16 ?_
    exact z_iretd K T rfl dX9_needs_19 (by unfold znd; rw [if_neg (by omega), hpl1.2.2.1, h7]) rfl
set_option maxHeartbeats 4000000 in
set_option maxRecDepth 100000 in
theorem cm_toWait_r (la : Launch) (g0 : zG) (ad : Nat → Nat) (μ : zMem) (n nc S : Nat) (kd al wt an c : Nat → Int) (hm : zMP μ n nc kd al wt an) (hw : zHW n nc c) (hg : zAg n nc S (μ 47) c) (l : Nat) (hl : l < n) : zCon la g0 yX9_toWait cX9_toWait 4 (some .int) 2 ad zSH [.ref (ad 39), .ref (ad 47), .int (zi ((l : Nat) : Int))] μ (zPd μ (zdl n kd al c l)) := by
  refine zCon_of (by decide +kernel) (Nat.le_of_ble_eq_true rfl) ?_
  intro χ K T hl1 hg1
  have K : zOk χ cX9_toWait RX9 4 2 (some .int) := K
  obtain ⟨hn, hnc, hpl, hpa, hpk⟩ := id hm
  have hn6 := hpk.1
  have hnc3 := hpk.2.1
  have agl := hg.1 l hl
  have hwl := hw.1 l hl
  have hnd : 1 ≤ znd n kd al c l ∧ znd n kd al c l ≤ 15 := by
    have h1 := hpk.2.2.1 l hl
    have h3 := zcnt_le c l n
    unfold znd; split <;> omega
  show zV χ 4 ad zSH 0 0 0 [(0, .ref (ad 39)), (1, .ref (ad 47)), (2, .int (zi ((l : Nat) : Int)))] [] μ
  refine z_aload_n K dX9_toWait_0 rfl ?_
  refine z_aload_n K dX9_toWait_1 rfl ?_
  refine z_iload_n K dX9_toWait_2 rfl ?_
  refine z_callVd K hl1 hg1 (kb := 39) (As := [.ref (ad 47), .int (zi ((l : Nat) : Int))]) (rest := []) (cm_needs_r la g0 ad μ n nc S kd al wt an c hm hw hg l hl) (by decide) lk_X9_118 cd_X9_needs rfl rfl rfl rfl (Nat.le_of_ble_eq_true rfl) dX9_toWait_3 ?_
  refine z_aload_n K dX9_toWait_6 rfl ?_
  refine z_bipush K dX9_toWait_7 (by decide +kernel) ?_
  refine z_iload_n K dX9_toWait_9 rfl ?_
  refine z_iadd K dX9_toWait_10 ?_
  refine z_iald (k := 47) (v := c (6 + l)) K dX9_toWait_11 (12 + l) rfl (by decide) (by omega) (by omega) agl.2.2 ?_
  refine z_isub K dX9_toWait_12 ?_
  refine z_istore_n (lv' := [(0, .ref (ad 39)), (1, .ref (ad 47)), (2, .int (zi ((l : Nat) : Int))), (3, .int (zi ((znd n kd al c l) - (c (6 + l)))))]) K dX9_toWait_13 (by decide) rfl ?_
  refine z_iload_n K dX9_toWait_14 rfl ?_
  refine z_ifge (tgt := 22) K dX9_toWait_15 (by decide) (by omega) (fun h15 => ?_) (fun h15 => ?_)
  · refine z_iload_n K dX9_toWait_22 rfl ?_
    exact z_iretd K T rfl dX9_toWait_23 (by rw [zdl_nd]; omega) rfl
  · refine z_iconst K dX9_toWait_18 ?_
    refine z_goto (tgt := 23) K dX9_toWait_19 (by decide) ?_
    exact z_iretd K T rfl dX9_toWait_23 (by rw [zdl_nd]; omega) rfl
set_option maxHeartbeats 4000000 in
set_option maxRecDepth 100000 in
theorem cm_thatAre_r (la : Launch) (g0 : zG) (ad : Nat → Nat) (μ : zMem) (n nc S : Nat) (kd al wt an c : Nat → Int) (hm : zMP μ n nc kd al wt an) (hw : zHW n nc c) (hg : zAg n nc S (μ 47) c) (f : Int) (hf : zR f) : zCon la g0 yX9_thatAre cX9_thatAre 5 (some .int) 0 ad zSH [.ref (ad 39), .ref (ad 47), .int (zi f)] μ (zPd μ ((zwho c f n : Nat) : Int)) := by
  refine zCon_of (by decide +kernel) (Nat.le_of_ble_eq_true rfl) ?_
  intro χ K T hl1 hg1
  have K : zOk χ cX9_thatAre RX9 5 0 (some .int) := K
  obtain ⟨hn, hnc, hpl, hpa, hpk⟩ := id hm
  have hn6 := hpk.1
  have hnc3 := hpk.2.1
  show zV χ 5 ad zSH 0 0 0 [(0, .ref (ad 39)), (1, .ref (ad 47)), (2, .int (zi f))] [] μ
  refine z_iconst K dX9_thatAre_0 ?_
  refine z_istore_n (lv' := [(0, .ref (ad 39)), (1, .ref (ad 47)), (2, .int (zi f)), (3, .int (zi (0 : Int)))]) K dX9_thatAre_1 (by decide) rfl ?_
  refine z_iconst K dX9_thatAre_2 ?_
  refine z_istore (lv' := [(0, .ref (ad 39)), (1, .ref (ad 47)), (2, .int (zi f)), (3, .int (zi (0 : Int))), (4, .int (zi (0 : Int)))]) K dX9_thatAre_3 (by decide) rfl ?_
  have L5 : ∀ l, l ≤ n → zV χ 5 ad zSH 0 0 5 [(0, .ref (ad 39)), (1, .ref (ad 47)), (2, .int (zi f)), (3, .int (zi ((zwho c f l : Nat) : Int))), (4, .int (zi ((l : Nat) : Int)))] [] μ := by
    refine zfor ?_
    intro l hl ih
    refine z_iload K dX9_thatAre_5 rfl ?_
    refine z_aload_n K dX9_thatAre_7 rfl ?_
    refine z_get (k := 39) (v := .int (zi (μ 39 4))) K dX9_thatAre_8 fl_X9_63 rfl rfl rfl ?_
    refine z_icmpge (tgt := 42) K dX9_thatAre_11 (by decide) (by omega) (by omega) (fun h11 => ?_) (fun h11 => ?_)
    · refine z_iload_n K dX9_thatAre_42 rfl ?_
      exact z_iretd K T rfl dX9_thatAre_43 (by rw [show l = n by omega]) rfl
    · have ag := hg.1 l (by omega)
      have hwo := hw.1 l (by omega)
      refine z_iload_n K dX9_thatAre_14 rfl ?_
      refine z_aload_n K dX9_thatAre_15 rfl ?_
      refine z_bipush K dX9_thatAre_16 (by decide +kernel) ?_
      refine z_iload K dX9_thatAre_18 rfl ?_
      refine z_iadd K dX9_thatAre_20 ?_
      refine z_iald (k := 47) (v := c (12 + l)) K dX9_thatAre_21 (6 + l) rfl (by decide) (by omega) (by omega) ag.2.1 ?_
      refine z_iload_n K dX9_thatAre_22 rfl ?_
      refine z_icmpne (tgt := 33) K dX9_thatAre_23 (by decide) (by omega) (by omega) (fun h23 => ?_) (fun h23 => ?_)
      · refine z_iconst K dX9_thatAre_33 ?_
        refine z_iorR (z := zi ((zwho c f l : Nat) : Int)) K dX9_thatAre_34 (zb_or0 _) ?_
        refine z_istore_n (lv' := [(0, .ref (ad 39)), (1, .ref (ad 47)), (2, .int (zi f)), (3, .int (zi ((zwho c f l : Nat) : Int))), (4, .int (zi ((l : Nat) : Int)))]) K dX9_thatAre_35 (by decide) rfl ?_
        refine z_iincN (lv' := [(0, .ref (ad 39)), (1, .ref (ad 47)), (2, .int (zi f)), (3, .int (zi ((zwho c f l : Nat) : Int))), (4, .int (zi ((l + 1 : Nat) : Int)))]) K dX9_thatAre_36 rfl (by decide) rfl ?_
        refine z_goto (tgt := 5) K dX9_thatAre_39 (by decide) ?_
        have e9 : zwho c f l = zwho c f (l + 1) := by simp [zwho, h23]
        rw [e9]
        exact ih (l + 1) (by omega) (by omega)
      · refine z_iconst K dX9_thatAre_26 ?_
        refine z_iload K dX9_thatAre_27 rfl ?_
        refine z_ishlR (z := zi ((2 ^ l : Nat) : Int)) K dX9_thatAre_29 (zb_shl l (by omega)) ?_
        refine z_goto (tgt := 34) K dX9_thatAre_30 (by decide) ?_
        refine z_iorR (z := zi ((zwho c f l ||| 2 ^ l : Nat) : Int)) K dX9_thatAre_34 (zb_or _ _) ?_
        refine z_istore_n (lv' := [(0, .ref (ad 39)), (1, .ref (ad 47)), (2, .int (zi f)), (3, .int (zi ((zwho c f l ||| 2 ^ l : Nat) : Int))), (4, .int (zi ((l : Nat) : Int)))]) K dX9_thatAre_35 (by decide) rfl ?_
        refine z_iincN (lv' := [(0, .ref (ad 39)), (1, .ref (ad 47)), (2, .int (zi f)), (3, .int (zi ((zwho c f l ||| 2 ^ l : Nat) : Int))), (4, .int (zi ((l + 1 : Nat) : Int)))]) K dX9_thatAre_36 rfl (by decide) rfl ?_
        refine z_goto (tgt := 5) K dX9_thatAre_39 (by decide) ?_
        have e9 : zwho c f l ||| 2 ^ l = zwho c f (l + 1) := by simp [zwho, h23]
        rw [e9]
        exact ih (l + 1) (by omega) (by omega)
  exact L5 0 (by omega)
set_option maxHeartbeats 4000000 in
set_option maxRecDepth 100000 in
theorem cm_lost_r (la : Launch) (g0 : zG) (ad : Nat → Nat) (μ : zMem) (n nc S : Nat) (kd al wt an c : Nat → Int) (hm : zMP μ n nc kd al wt an) (hw : zHW n nc c) (hg : zAg n nc S (μ 47) c) : zCon la g0 yX9_lost cX9_lost 2 (some .int) 1 ad zSH [.ref (ad 39), .ref (ad 47)] μ (zPd μ ((zwho c 2 n ||| zwho c 3 n : Nat) : Int)) := by
  refine zCon_of (by decide +kernel) (Nat.le_of_ble_eq_true rfl) ?_
  intro χ K T hl1 hg1
  have K : zOk χ cX9_lost RX9 2 1 (some .int) := K
  obtain ⟨hn, hnc, hpl, hpa, hpk⟩ := id hm
  have hn6 := hpk.1
  have hnc3 := hpk.2.1
  show zV χ 2 ad zSH 0 0 0 [(0, .ref (ad 39)), (1, .ref (ad 47))] [] μ
  refine z_aload_n K dX9_lost_0 rfl ?_
  refine z_aload_n K dX9_lost_1 rfl ?_
  refine z_iconst K dX9_lost_2 ?_
  refine z_callVd K hl1 hg1 (kb := 39) (As := [.ref (ad 47), .int (zi (2 : Int))]) (rest := []) (cm_thatAre_r la g0 ad μ n nc S kd al wt an c hm hw hg 2 ⟨by decide, by decide⟩) (by decide) lk_X9_122 cd_X9_thatAre rfl rfl rfl rfl (Nat.le_of_ble_eq_true rfl) dX9_lost_3 ?_
  refine z_aload_n K dX9_lost_6 rfl ?_
  refine z_aload_n K dX9_lost_7 rfl ?_
  refine z_iconst K dX9_lost_8 ?_
  refine z_callVd K hl1 hg1 (kb := 39) (As := [.ref (ad 47), .int (zi (3 : Int))]) (rest := [.int (zi ((zwho c 2 n : Nat) : Int))]) (cm_thatAre_r la g0 ad μ n nc S kd al wt an c hm hw hg 3 ⟨by decide, by decide⟩) (by decide) lk_X9_122 cd_X9_thatAre rfl rfl rfl rfl (Nat.le_of_ble_eq_true rfl) dX9_lost_9 ?_
  refine z_iorR (z := zi ((zwho c 2 n ||| zwho c 3 n : Nat) : Int)) K dX9_lost_12 (zb_or _ _) ?_
  exact z_iretd K T rfl dX9_lost_13 rfl rfl
set_option maxHeartbeats 4000000 in
set_option maxRecDepth 100000 in
theorem cm_inHole_r (la : Launch) (g0 : zG) (ad : Nat → Nat) (μ : zMem) (n nc S : Nat) (kd al wt an c : Nat → Int) (hm : zMP μ n nc kd al wt an) (hw : zHW n nc c) (hg : zAg n nc S (μ 47) c) (f : Int) (hf : zR f) : zCon la g0 yX9_inHole cX9_inHole 6 (some .int) 0 ad zSH [.ref (ad 39), .ref (ad 47), .int (zi f)] μ (zPd μ ((zin c f n : Nat) : Int)) := by
  refine zCon_of (by decide +kernel) (Nat.le_of_ble_eq_true rfl) ?_
  intro χ K T hl1 hg1
  have K : zOk χ cX9_inHole RX9 6 0 (some .int) := K
  obtain ⟨hn, hnc, hpl, hpa, hpk⟩ := id hm
  have hn6 := hpk.1
  have hnc3 := hpk.2.1
  show zV χ 6 ad zSH 0 0 0 [(0, .ref (ad 39)), (1, .ref (ad 47)), (2, .int (zi f))] [] μ
  refine z_iconst K dX9_inHole_0 ?_
  refine z_istore_n (lv' := [(0, .ref (ad 39)), (1, .ref (ad 47)), (2, .int (zi f)), (3, .int (zi (0 : Int)))]) K dX9_inHole_1 (by decide) rfl ?_
  refine z_iconst K dX9_inHole_2 ?_
  refine z_istore (lv' := [(0, .ref (ad 39)), (1, .ref (ad 47)), (2, .int (zi f)), (3, .int (zi (0 : Int))), (4, .int (zi (0 : Int)))]) K dX9_inHole_3 (by decide) rfl ?_
  have L5 : ∀ l, l ≤ n → zV χ 6 ad zSH 0 0 5 [(0, .ref (ad 39)), (1, .ref (ad 47)), (2, .int (zi f)), (3, .int (zi ((zin c f l : Nat) : Int))), (4, .int (zi ((l : Nat) : Int)))] [] μ := by
    refine zfor ?_
    intro l hl ih
    refine z_iload K dX9_inHole_5 rfl ?_
    refine z_aload_n K dX9_inHole_7 rfl ?_
    refine z_get (k := 39) (v := .int (zi (μ 39 4))) K dX9_inHole_8 fl_X9_63 rfl rfl rfl ?_
    refine z_icmpge (tgt := 72) K dX9_inHole_11 (by decide) (by omega) (by omega) (fun h11 => ?_) (fun h11 => ?_)
    · refine z_iload_n K dX9_inHole_72 rfl ?_
      exact z_iretd K T rfl dX9_inHole_73 (by rw [show l = n by omega]) rfl
    · have ag := hg.1 l (by omega)
      have hwo := hw.1 l (by omega)
      refine z_aload_n K dX9_inHole_14 rfl ?_
      refine z_bipush K dX9_inHole_15 (by decide +kernel) ?_
      refine z_iload K dX9_inHole_17 rfl ?_
      refine z_iadd K dX9_inHole_19 ?_
      refine z_iald (k := 47) (v := c (12 + l)) K dX9_inHole_20 (6 + l) rfl (by decide) (by omega) (by omega) ag.2.1 ?_
      refine z_ifeq (tgt := 35) K dX9_inHole_21 (by decide) (by omega) (fun h21 => ?_) (fun h21 => ?_)
      · refine z_iconst K dX9_inHole_35 ?_
        refine z_goto (tgt := 40) K dX9_inHole_36 (by decide) ?_
        refine z_istore (lv' := [(0, .ref (ad 39)), (1, .ref (ad 47)), (2, .int (zi f)), (3, .int (zi ((zin c f l : Nat) : Int))), (4, .int (zi ((l : Nat) : Int))), (5, .int (zi (1 : Int)))]) K dX9_inHole_40 (by decide) rfl ?_
        refine z_iload_n K dX9_inHole_42 rfl ?_
        refine z_iload K dX9_inHole_43 rfl ?_
        refine z_ifeq (tgt := 63) K dX9_inHole_45 (by decide) ⟨by decide, by decide⟩ (fun h45 => ?_) (fun h45 => ?_)
        · refine z_iconst K dX9_inHole_63 ?_
          refine z_iorR (z := zi ((zin c f l : Nat) : Int)) K dX9_inHole_64 (zb_or0 _) ?_
          refine z_istore_n (lv' := [(0, .ref (ad 39)), (1, .ref (ad 47)), (2, .int (zi f)), (3, .int (zi ((zin c f l : Nat) : Int))), (4, .int (zi ((l : Nat) : Int))), (5, .int (zi (1 : Int)))]) K dX9_inHole_65 (by decide) rfl ?_
          refine z_iincN (lv' := [(0, .ref (ad 39)), (1, .ref (ad 47)), (2, .int (zi f)), (3, .int (zi ((zin c f l : Nat) : Int))), (4, .int (zi ((l + 1 : Nat) : Int))), (5, .int (zi (1 : Int)))]) K dX9_inHole_66 rfl (by decide) rfl ?_
          refine z_goto (tgt := 5) K dX9_inHole_69 (by decide) ?_
          refine z_ipick [0, 1, 2, 3, 4] rfl ?_
          have e9 : zin c f l = zin c f (l + 1) := by
            rw [zin_s]
            rw [if_neg (by omega)]
          rw [e9]
          exact ih (l + 1) (by omega) (by omega)
        · refine z_aload_n K dX9_inHole_48 rfl ?_
          refine z_iload K dX9_inHole_49 rfl ?_
          refine z_iald (k := 47) (v := c l) K dX9_inHole_51 l rfl (by decide) (by omega) (by omega) ag.1 ?_
          refine z_iload_n K dX9_inHole_52 rfl ?_
          refine z_icmpne (tgt := 63) K dX9_inHole_53 (by decide) (by omega) (by omega) (fun h53 => ?_) (fun h53 => ?_)
          · refine z_iconst K dX9_inHole_63 ?_
            refine z_iorR (z := zi ((zin c f l : Nat) : Int)) K dX9_inHole_64 (zb_or0 _) ?_
            refine z_istore_n (lv' := [(0, .ref (ad 39)), (1, .ref (ad 47)), (2, .int (zi f)), (3, .int (zi ((zin c f l : Nat) : Int))), (4, .int (zi ((l : Nat) : Int))), (5, .int (zi (1 : Int)))]) K dX9_inHole_65 (by decide) rfl ?_
            refine z_iincN (lv' := [(0, .ref (ad 39)), (1, .ref (ad 47)), (2, .int (zi f)), (3, .int (zi ((zin c f l : Nat) : Int))), (4, .int (zi ((l + 1 : Nat) : Int))), (5, .int (zi (1 : Int)))]) K dX9_inHole_66 rfl (by decide) rfl ?_
            refine z_goto (tgt := 5) K dX9_inHole_69 (by decide) ?_
            refine z_ipick [0, 1, 2, 3, 4] rfl ?_
            have e9 : zin c f l = zin c f (l + 1) := by
              rw [zin_s]
              rw [if_neg (by omega)]
            rw [e9]
            exact ih (l + 1) (by omega) (by omega)
          · refine z_iconst K dX9_inHole_56 ?_
            refine z_iload K dX9_inHole_57 rfl ?_
            refine z_ishlR (z := zi ((2 ^ l : Nat) : Int)) K dX9_inHole_59 (zb_shl l (by omega)) ?_
            refine z_goto (tgt := 64) K dX9_inHole_60 (by decide) ?_
            refine z_iorR (z := zi ((zin c f l ||| 2 ^ l : Nat) : Int)) K dX9_inHole_64 (zb_or _ _) ?_
            refine z_istore_n (lv' := [(0, .ref (ad 39)), (1, .ref (ad 47)), (2, .int (zi f)), (3, .int (zi ((zin c f l ||| 2 ^ l : Nat) : Int))), (4, .int (zi ((l : Nat) : Int))), (5, .int (zi (1 : Int)))]) K dX9_inHole_65 (by decide) rfl ?_
            refine z_iincN (lv' := [(0, .ref (ad 39)), (1, .ref (ad 47)), (2, .int (zi f)), (3, .int (zi ((zin c f l ||| 2 ^ l : Nat) : Int))), (4, .int (zi ((l + 1 : Nat) : Int))), (5, .int (zi (1 : Int)))]) K dX9_inHole_66 rfl (by decide) rfl ?_
            refine z_goto (tgt := 5) K dX9_inHole_69 (by decide) ?_
            refine z_ipick [0, 1, 2, 3, 4] rfl ?_
            have e9 : zin c f l ||| 2 ^ l = zin c f (l + 1) := by
              rw [zin_s]
              rw [if_pos ⟨by omega, by omega⟩]
            rw [e9]
            exact ih (l + 1) (by omega) (by omega)
      · refine z_aload_n K dX9_inHole_24 rfl ?_
        refine z_bipush K dX9_inHole_25 (by decide +kernel) ?_
        refine z_iload K dX9_inHole_27 rfl ?_
        refine z_iadd K dX9_inHole_29 ?_
        refine z_iald (k := 47) (v := c (12 + l)) K dX9_inHole_30 (6 + l) rfl (by decide) (by omega) (by omega) ag.2.1 ?_
        refine z_iconst K dX9_inHole_31 ?_
        refine z_icmpne (tgt := 39) K dX9_inHole_32 (by decide) (by omega) ⟨by decide, by decide⟩ (fun h32 => ?_) (fun h32 => ?_)
        · refine z_iconst K dX9_inHole_39 ?_
          refine z_istore (lv' := [(0, .ref (ad 39)), (1, .ref (ad 47)), (2, .int (zi f)), (3, .int (zi ((zin c f l : Nat) : Int))), (4, .int (zi ((l : Nat) : Int))), (5, .int (zi (0 : Int)))]) K dX9_inHole_40 (by decide) rfl ?_
          refine z_iload_n K dX9_inHole_42 rfl ?_
          refine z_iload K dX9_inHole_43 rfl ?_
          refine z_ifeq (tgt := 63) K dX9_inHole_45 (by decide) ⟨by decide, by decide⟩ (fun h45 => ?_) (fun h45 => ?_)
          · refine z_iconst K dX9_inHole_63 ?_
            refine z_iorR (z := zi ((zin c f l : Nat) : Int)) K dX9_inHole_64 (zb_or0 _) ?_
            refine z_istore_n (lv' := [(0, .ref (ad 39)), (1, .ref (ad 47)), (2, .int (zi f)), (3, .int (zi ((zin c f l : Nat) : Int))), (4, .int (zi ((l : Nat) : Int))), (5, .int (zi (0 : Int)))]) K dX9_inHole_65 (by decide) rfl ?_
            refine z_iincN (lv' := [(0, .ref (ad 39)), (1, .ref (ad 47)), (2, .int (zi f)), (3, .int (zi ((zin c f l : Nat) : Int))), (4, .int (zi ((l + 1 : Nat) : Int))), (5, .int (zi (0 : Int)))]) K dX9_inHole_66 rfl (by decide) rfl ?_
            refine z_goto (tgt := 5) K dX9_inHole_69 (by decide) ?_
            refine z_ipick [0, 1, 2, 3, 4] rfl ?_
            have e9 : zin c f l = zin c f (l + 1) := by
              rw [zin_s]
              rw [if_neg (by omega)]
            rw [e9]
            exact ih (l + 1) (by omega) (by omega)
          · refine z_aload_n K dX9_inHole_48 rfl ?_
            refine z_iload K dX9_inHole_49 rfl ?_
            refine z_iald (k := 47) (v := c l) K dX9_inHole_51 l rfl (by decide) (by omega) (by omega) ag.1 ?_
            refine z_iload_n K dX9_inHole_52 rfl ?_
            refine z_icmpne (tgt := 63) K dX9_inHole_53 (by decide) (by omega) (by omega) (fun h53 => ?_) (fun h53 => ?_)
            · refine z_iconst K dX9_inHole_63 ?_
              refine z_iorR (z := zi ((zin c f l : Nat) : Int)) K dX9_inHole_64 (zb_or0 _) ?_
              refine z_istore_n (lv' := [(0, .ref (ad 39)), (1, .ref (ad 47)), (2, .int (zi f)), (3, .int (zi ((zin c f l : Nat) : Int))), (4, .int (zi ((l : Nat) : Int))), (5, .int (zi (0 : Int)))]) K dX9_inHole_65 (by decide) rfl ?_
              refine z_iincN (lv' := [(0, .ref (ad 39)), (1, .ref (ad 47)), (2, .int (zi f)), (3, .int (zi ((zin c f l : Nat) : Int))), (4, .int (zi ((l + 1 : Nat) : Int))), (5, .int (zi (0 : Int)))]) K dX9_inHole_66 rfl (by decide) rfl ?_
              refine z_goto (tgt := 5) K dX9_inHole_69 (by decide) ?_
              refine z_ipick [0, 1, 2, 3, 4] rfl ?_
              have e9 : zin c f l = zin c f (l + 1) := by
                rw [zin_s]
                rw [if_neg (by omega)]
              rw [e9]
              exact ih (l + 1) (by omega) (by omega)
            · refine z_iconst K dX9_inHole_56 ?_
              refine z_iload K dX9_inHole_57 rfl ?_
              refine z_ishlR (z := zi ((2 ^ l : Nat) : Int)) K dX9_inHole_59 (zb_shl l (by omega)) ?_
              refine z_goto (tgt := 64) K dX9_inHole_60 (by decide) ?_
              refine z_iorR (z := zi ((zin c f l ||| 2 ^ l : Nat) : Int)) K dX9_inHole_64 (zb_or _ _) ?_
              refine z_istore_n (lv' := [(0, .ref (ad 39)), (1, .ref (ad 47)), (2, .int (zi f)), (3, .int (zi ((zin c f l ||| 2 ^ l : Nat) : Int))), (4, .int (zi ((l : Nat) : Int))), (5, .int (zi (0 : Int)))]) K dX9_inHole_65 (by decide) rfl ?_
              refine z_iincN (lv' := [(0, .ref (ad 39)), (1, .ref (ad 47)), (2, .int (zi f)), (3, .int (zi ((zin c f l ||| 2 ^ l : Nat) : Int))), (4, .int (zi ((l + 1 : Nat) : Int))), (5, .int (zi (0 : Int)))]) K dX9_inHole_66 rfl (by decide) rfl ?_
              refine z_goto (tgt := 5) K dX9_inHole_69 (by decide) ?_
              refine z_ipick [0, 1, 2, 3, 4] rfl ?_
              have e9 : zin c f l ||| 2 ^ l = zin c f (l + 1) := by
                rw [zin_s]
                rw [if_pos ⟨by omega, by omega⟩]
              rw [e9]
              exact ih (l + 1) (by omega) (by omega)
        · refine z_iconst K dX9_inHole_35 ?_
          refine z_goto (tgt := 40) K dX9_inHole_36 (by decide) ?_
          refine z_istore (lv' := [(0, .ref (ad 39)), (1, .ref (ad 47)), (2, .int (zi f)), (3, .int (zi ((zin c f l : Nat) : Int))), (4, .int (zi ((l : Nat) : Int))), (5, .int (zi (1 : Int)))]) K dX9_inHole_40 (by decide) rfl ?_
          refine z_iload_n K dX9_inHole_42 rfl ?_
          refine z_iload K dX9_inHole_43 rfl ?_
          refine z_ifeq (tgt := 63) K dX9_inHole_45 (by decide) ⟨by decide, by decide⟩ (fun h45 => ?_) (fun h45 => ?_)
          · refine z_iconst K dX9_inHole_63 ?_
            refine z_iorR (z := zi ((zin c f l : Nat) : Int)) K dX9_inHole_64 (zb_or0 _) ?_
            refine z_istore_n (lv' := [(0, .ref (ad 39)), (1, .ref (ad 47)), (2, .int (zi f)), (3, .int (zi ((zin c f l : Nat) : Int))), (4, .int (zi ((l : Nat) : Int))), (5, .int (zi (1 : Int)))]) K dX9_inHole_65 (by decide) rfl ?_
            refine z_iincN (lv' := [(0, .ref (ad 39)), (1, .ref (ad 47)), (2, .int (zi f)), (3, .int (zi ((zin c f l : Nat) : Int))), (4, .int (zi ((l + 1 : Nat) : Int))), (5, .int (zi (1 : Int)))]) K dX9_inHole_66 rfl (by decide) rfl ?_
            refine z_goto (tgt := 5) K dX9_inHole_69 (by decide) ?_
            refine z_ipick [0, 1, 2, 3, 4] rfl ?_
            have e9 : zin c f l = zin c f (l + 1) := by
              rw [zin_s]
              rw [if_neg (by omega)]
            rw [e9]
            exact ih (l + 1) (by omega) (by omega)
          · refine z_aload_n K dX9_inHole_48 rfl ?_
            refine z_iload K dX9_inHole_49 rfl ?_
            refine z_iald (k := 47) (v := c l) K dX9_inHole_51 l rfl (by decide) (by omega) (by omega) ag.1 ?_
            refine z_iload_n K dX9_inHole_52 rfl ?_
            refine z_icmpne (tgt := 63) K dX9_inHole_53 (by decide) (by omega) (by omega) (fun h53 => ?_) (fun h53 => ?_)
            · refine z_iconst K dX9_inHole_63 ?_
              refine z_iorR (z := zi ((zin c f l : Nat) : Int)) K dX9_inHole_64 (zb_or0 _) ?_
              refine z_istore_n (lv' := [(0, .ref (ad 39)), (1, .ref (ad 47)), (2, .int (zi f)), (3, .int (zi ((zin c f l : Nat) : Int))), (4, .int (zi ((l : Nat) : Int))), (5, .int (zi (1 : Int)))]) K dX9_inHole_65 (by decide) rfl ?_
              refine z_iincN (lv' := [(0, .ref (ad 39)), (1, .ref (ad 47)), (2, .int (zi f)), (3, .int (zi ((zin c f l : Nat) : Int))), (4, .int (zi ((l + 1 : Nat) : Int))), (5, .int (zi (1 : Int)))]) K dX9_inHole_66 rfl (by decide) rfl ?_
              refine z_goto (tgt := 5) K dX9_inHole_69 (by decide) ?_
              refine z_ipick [0, 1, 2, 3, 4] rfl ?_
              have e9 : zin c f l = zin c f (l + 1) := by
                rw [zin_s]
                rw [if_neg (by omega)]
              rw [e9]
              exact ih (l + 1) (by omega) (by omega)
            · refine z_iconst K dX9_inHole_56 ?_
              refine z_iload K dX9_inHole_57 rfl ?_
              refine z_ishlR (z := zi ((2 ^ l : Nat) : Int)) K dX9_inHole_59 (zb_shl l (by omega)) ?_
              refine z_goto (tgt := 64) K dX9_inHole_60 (by decide) ?_
              refine z_iorR (z := zi ((zin c f l ||| 2 ^ l : Nat) : Int)) K dX9_inHole_64 (zb_or _ _) ?_
              refine z_istore_n (lv' := [(0, .ref (ad 39)), (1, .ref (ad 47)), (2, .int (zi f)), (3, .int (zi ((zin c f l ||| 2 ^ l : Nat) : Int))), (4, .int (zi ((l : Nat) : Int))), (5, .int (zi (1 : Int)))]) K dX9_inHole_65 (by decide) rfl ?_
              refine z_iincN (lv' := [(0, .ref (ad 39)), (1, .ref (ad 47)), (2, .int (zi f)), (3, .int (zi ((zin c f l ||| 2 ^ l : Nat) : Int))), (4, .int (zi ((l + 1 : Nat) : Int))), (5, .int (zi (1 : Int)))]) K dX9_inHole_66 rfl (by decide) rfl ?_
              refine z_goto (tgt := 5) K dX9_inHole_69 (by decide) ?_
              refine z_ipick [0, 1, 2, 3, 4] rfl ?_
              have e9 : zin c f l ||| 2 ^ l = zin c f (l + 1) := by
                rw [zin_s]
                rw [if_pos ⟨by omega, by omega⟩]
              rw [e9]
              exact ih (l + 1) (by omega) (by omega)
  exact L5 0 (by omega)
