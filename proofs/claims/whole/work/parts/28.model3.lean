set_option maxHeartbeats 4000000 in
set_option maxRecDepth 100000 in
theorem cm_nextOf_g (la : Launch) (g0 : zG) (ad : Nat → Nat) (μ : zMem) (n nc S : Nat) (kd al wt an c : Nat → Int) (hm : zMP μ n nc kd al wt an) (hw : zHW n nc c) (hg : zAg n nc S (μ 46) c) (row : Int) (hrow : 0 ≤ row ∧ row ≤ 3) : zCon la g0 yX9_nextOf cX9_nextOf 6 (some .int) 3 ad zSH [.ref (ad 39), .ref (ad 46), .int (zi row)] μ (zPd μ (zmp n kd al c row n).1) := by
  refine zCon_of (by decide +kernel) (Nat.le_of_ble_eq_true rfl) ?_
  intro χ K T hl1 hg1
  have K : zOk χ cX9_nextOf RX9 6 3 (some .int) := K
  obtain ⟨hn, hnc, hpl, hpa, hpk⟩ := id hm
  have hn6 := hpk.1
  have hnc3 := hpk.2.1
  show zV χ 6 ad zSH 0 0 0 [(0, .ref (ad 39)), (1, .ref (ad 46)), (2, .int (zi row))] [] μ
  refine z_bipush K dX9_nextOf_0 (by decide +kernel) ?_
  refine z_istore_n (lv' := [(0, .ref (ad 39)), (1, .ref (ad 46)), (2, .int (zi row)), (3, .int (zi (-9 : Int)))]) K dX9_nextOf_2 (by decide) rfl ?_
  refine z_aload_n K dX9_nextOf_3 rfl ?_
  refine z_get (k := 39) (v := .int (zi (μ 39 4))) K dX9_nextOf_4 fl_X9_63 rfl rfl rfl ?_
  refine z_iconst K dX9_nextOf_7 ?_
  refine z_isub K dX9_nextOf_8 ?_
  refine z_istore (lv' := [(0, .ref (ad 39)), (1, .ref (ad 46)), (2, .int (zi row)), (3, .int (zi (-9 : Int))), (4, .int (zi ((μ 39 4) - (1 : Int))))]) K dX9_nextOf_9 (by decide) rfl ?_
  have L11 : ∀ j, ∀ f : Int, j ≤ n → znx n kd al c row j f → zV χ 6 ad zSH 0 0 11 [(0, .ref (ad 39)), (1, .ref (ad 46)), (2, .int (zi row)), (3, .int (zi f)), (4, .int (zi (((j : Nat) : Int) + (-1 : Int))))] [] μ := by
    refine zdown ?_
    intro j ih f hj hnx
    have hfr : -9 ≤ f ∧ f ≤ 6 := by rcases hnx with h | ⟨b, h1, h2, h3, h4⟩ <;> omega
    refine z_iload K dX9_nextOf_11 rfl ?_
    refine z_iflt (tgt := 83) K dX9_nextOf_13 (by decide) (by omega) (fun h13 => ?_) (fun h13 => ?_)
    · refine z_iload_n K dX9_nextOf_83 rfl ?_
      exact z_iretd K T rfl dX9_nextOf_84 (znx_mp (by rw [show j = 0 by omega] at hnx; exact hnx)) rfl
    · obtain ⟨k, rfl⟩ : ∃ k, j = k + 1 := ⟨j - 1, by omega⟩
      rw [show ((k + 1 : Nat) : Int) + (-1 : Int) = ((k : Nat) : Int) by omega]
      have ag := hg.1 k (by omega)
      have hwo := hw.1 k (by omega)
      refine z_aload_n K dX9_nextOf_16 rfl ?_
      refine z_bipush K dX9_nextOf_17 (by decide +kernel) ?_
      refine z_iload K dX9_nextOf_19 rfl ?_
      refine z_iadd K dX9_nextOf_21 ?_
      refine z_iald (k := 46) (v := c (12 + k)) K dX9_nextOf_22 (6 + k) rfl (by decide) (by omega) (by omega) ag.2.1 ?_
      refine z_ifne (tgt := 40) K dX9_nextOf_23 (by decide) (by omega) (fun h23 => ?_) (fun h23 => ?_)
      · refine z_iconst K dX9_nextOf_40 ?_
        refine z_istore (lv' := [(0, .ref (ad 39)), (1, .ref (ad 46)), (2, .int (zi row)), (3, .int (zi f)), (4, .int (zi ((k : Nat) : Int))), (5, .int (zi (0 : Int)))]) K dX9_nextOf_41 (by decide) rfl ?_
        refine z_iload K dX9_nextOf_43 rfl ?_
        refine z_ifeq (tgt := 75) K dX9_nextOf_45 (by decide) ⟨by decide, by decide⟩ (fun h45 => ?_) (fun h45 => ?_)
        · refine z_iload_n K dX9_nextOf_75 rfl ?_
          refine z_istore_n (lv' := [(0, .ref (ad 39)), (1, .ref (ad 46)), (2, .int (zi row)), (3, .int (zi f)), (4, .int (zi ((k : Nat) : Int))), (5, .int (zi (0 : Int)))]) K dX9_nextOf_76 (by decide) rfl ?_
          refine z_iinc (lv' := [(0, .ref (ad 39)), (1, .ref (ad 46)), (2, .int (zi row)), (3, .int (zi f)), (4, .int (zi (((k : Nat) : Int) + (-1 : Int)))), (5, .int (zi (0 : Int)))]) K dX9_nextOf_77 rfl (by decide) rfl ?_
          refine z_goto (tgt := 11) K dX9_nextOf_80 (by decide) ?_
          refine z_ipick [0, 1, 2, 3, 4] rfl ?_
          exact ih k (by omega) _ (by omega) (znx_keep hnx (by first | exact fun _ => ⟨m, rfl, by omega⟩ | exact fun he => absurd he (by unfold zel; omega)))
        · refine z_iload_n K dX9_nextOf_48 rfl ?_
          refine z_bipush K dX9_nextOf_49 (by decide +kernel) ?_
          refine z_icmpeq (tgt := 70) K dX9_nextOf_51 (by decide) (by omega) ⟨by decide, by decide⟩ (fun h51 => ?_) (fun h51 => ?_)
          · refine z_iload K dX9_nextOf_70 rfl ?_
            refine z_goto (tgt := 76) K dX9_nextOf_72 (by decide) ?_
            refine z_istore_n (lv' := [(0, .ref (ad 39)), (1, .ref (ad 46)), (2, .int (zi row)), (3, .int (zi ((k : Nat) : Int))), (4, .int (zi ((k : Nat) : Int))), (5, .int (zi (0 : Int)))]) K dX9_nextOf_76 (by decide) rfl ?_
            refine z_iinc (lv' := [(0, .ref (ad 39)), (1, .ref (ad 46)), (2, .int (zi row)), (3, .int (zi ((k : Nat) : Int))), (4, .int (zi (((k : Nat) : Int) + (-1 : Int)))), (5, .int (zi (0 : Int)))]) K dX9_nextOf_77 rfl (by decide) rfl ?_
            refine z_goto (tgt := 11) K dX9_nextOf_80 (by decide) ?_
            refine z_ipick [0, 1, 2, 3, 4] rfl ?_
            exact ih k (by omega) _ (by omega) (znx_take hnx ⟨by omega, by omega⟩ (by first | exact Or.inl h51 | exact Or.inr ⟨m, rfl, by omega⟩) (by omega))
          · obtain ⟨m, rfl, hm1, hm2, hm3, hm4, hm5⟩ : ∃ b : Nat, f = (b : Int) ∧ k + 1 ≤ b ∧ b < n ∧ zel c row b ∧ (∀ j, k + 1 ≤ j → j < n → zel c row j → zdl n kd al c b ≤ zdl n kd al c j) ∧ ∀ j, k + 1 ≤ j → j < b → zel c row j → zdl n kd al c b < zdl n kd al c j := by
              rcases hnx with h | h
              · exact absurd h.1 h51
              · exact h
            have hz1 := zdl_rg hpk hw (l := k) (by omega)
            have hz2 := zdl_rg hpk hw (l := m) hm2
            refine z_aload_n K dX9_nextOf_54 rfl ?_
            refine z_aload_n K dX9_nextOf_55 rfl ?_
            refine z_iload K dX9_nextOf_56 rfl ?_
            refine z_callVd K hl1 hg1 (kb := 39) (As := [.ref (ad 46), .int (zi ((k : Nat) : Int))]) (rest := []) (cm_toWait_g la g0 ad μ n nc S kd al wt an c hm hw hg k (by omega)) (by decide) lk_X9_131 cd_X9_toWait rfl rfl rfl rfl (Nat.le_of_ble_eq_true rfl) dX9_nextOf_58 ?_
            refine z_aload_n K dX9_nextOf_61 rfl ?_
            refine z_aload_n K dX9_nextOf_62 rfl ?_
            refine z_iload_n K dX9_nextOf_63 rfl ?_
            refine z_callVd K hl1 hg1 (kb := 39) (As := [.ref (ad 46), .int (zi ((m : Nat) : Int))]) (rest := [.int (zi (zdl n kd al c k))]) (cm_toWait_g la g0 ad μ n nc S kd al wt an c hm hw hg m hm2) (by decide) lk_X9_131 cd_X9_toWait rfl rfl rfl rfl (Nat.le_of_ble_eq_true rfl) dX9_nextOf_64 ?_
            refine z_icmpgt (tgt := 75) K dX9_nextOf_67 (by decide) (by omega) (by omega) (fun h67 => ?_) (fun h67 => ?_)
            · refine z_iload_n K dX9_nextOf_75 rfl ?_
              refine z_istore_n (lv' := [(0, .ref (ad 39)), (1, .ref (ad 46)), (2, .int (zi row)), (3, .int (zi ((m : Nat) : Int))), (4, .int (zi ((k : Nat) : Int))), (5, .int (zi (0 : Int)))]) K dX9_nextOf_76 (by decide) rfl ?_
              refine z_iinc (lv' := [(0, .ref (ad 39)), (1, .ref (ad 46)), (2, .int (zi row)), (3, .int (zi ((m : Nat) : Int))), (4, .int (zi (((k : Nat) : Int) + (-1 : Int)))), (5, .int (zi (0 : Int)))]) K dX9_nextOf_77 rfl (by decide) rfl ?_
              refine z_goto (tgt := 11) K dX9_nextOf_80 (by decide) ?_
              refine z_ipick [0, 1, 2, 3, 4] rfl ?_
              exact ih k (by omega) _ (by omega) (znx_keep hnx (by first | exact fun _ => ⟨m, rfl, by omega⟩ | exact fun he => absurd he (by unfold zel; omega)))
            · refine z_iload K dX9_nextOf_70 rfl ?_
              refine z_goto (tgt := 76) K dX9_nextOf_72 (by decide) ?_
              refine z_istore_n (lv' := [(0, .ref (ad 39)), (1, .ref (ad 46)), (2, .int (zi row)), (3, .int (zi ((k : Nat) : Int))), (4, .int (zi ((k : Nat) : Int))), (5, .int (zi (0 : Int)))]) K dX9_nextOf_76 (by decide) rfl ?_
              refine z_iinc (lv' := [(0, .ref (ad 39)), (1, .ref (ad 46)), (2, .int (zi row)), (3, .int (zi ((k : Nat) : Int))), (4, .int (zi (((k : Nat) : Int) + (-1 : Int)))), (5, .int (zi (0 : Int)))]) K dX9_nextOf_77 rfl (by decide) rfl ?_
              refine z_goto (tgt := 11) K dX9_nextOf_80 (by decide) ?_
              refine z_ipick [0, 1, 2, 3, 4] rfl ?_
              exact ih k (by omega) _ (by omega) (znx_take hnx ⟨by omega, by omega⟩ (by first | exact Or.inl h51 | exact Or.inr ⟨m, rfl, by omega⟩) (by omega))
      · refine z_aload_n K dX9_nextOf_26 rfl ?_
        refine z_iload K dX9_nextOf_27 rfl ?_
        refine z_iald (k := 46) (v := c k) K dX9_nextOf_29 k rfl (by decide) (by omega) (by omega) ag.1 ?_
        refine z_iconst K dX9_nextOf_30 ?_
        refine z_idiv K dX9_nextOf_31 (by omega) (by omega) ?_
        refine z_iload_n K dX9_nextOf_32 rfl ?_
        refine z_icmpne (tgt := 40) K dX9_nextOf_33 (by decide) (by omega) (by omega) (fun h33 => ?_) (fun h33 => ?_)
        · refine z_iconst K dX9_nextOf_40 ?_
          refine z_istore (lv' := [(0, .ref (ad 39)), (1, .ref (ad 46)), (2, .int (zi row)), (3, .int (zi f)), (4, .int (zi ((k : Nat) : Int))), (5, .int (zi (0 : Int)))]) K dX9_nextOf_41 (by decide) rfl ?_
          refine z_iload K dX9_nextOf_43 rfl ?_
          refine z_ifeq (tgt := 75) K dX9_nextOf_45 (by decide) ⟨by decide, by decide⟩ (fun h45 => ?_) (fun h45 => ?_)
          · refine z_iload_n K dX9_nextOf_75 rfl ?_
            refine z_istore_n (lv' := [(0, .ref (ad 39)), (1, .ref (ad 46)), (2, .int (zi row)), (3, .int (zi f)), (4, .int (zi ((k : Nat) : Int))), (5, .int (zi (0 : Int)))]) K dX9_nextOf_76 (by decide) rfl ?_
            refine z_iinc (lv' := [(0, .ref (ad 39)), (1, .ref (ad 46)), (2, .int (zi row)), (3, .int (zi f)), (4, .int (zi (((k : Nat) : Int) + (-1 : Int)))), (5, .int (zi (0 : Int)))]) K dX9_nextOf_77 rfl (by decide) rfl ?_
            refine z_goto (tgt := 11) K dX9_nextOf_80 (by decide) ?_
            refine z_ipick [0, 1, 2, 3, 4] rfl ?_
            exact ih k (by omega) _ (by omega) (znx_keep hnx (by first | exact fun _ => ⟨m, rfl, by omega⟩ | exact fun he => absurd he (by unfold zel; omega)))
          · refine z_iload_n K dX9_nextOf_48 rfl ?_
            refine z_bipush K dX9_nextOf_49 (by decide +kernel) ?_
            refine z_icmpeq (tgt := 70) K dX9_nextOf_51 (by decide) (by omega) ⟨by decide, by decide⟩ (fun h51 => ?_) (fun h51 => ?_)
            · refine z_iload K dX9_nextOf_70 rfl ?_
              refine z_goto (tgt := 76) K dX9_nextOf_72 (by decide) ?_
              refine z_istore_n (lv' := [(0, .ref (ad 39)), (1, .ref (ad 46)), (2, .int (zi row)), (3, .int (zi ((k : Nat) : Int))), (4, .int (zi ((k : Nat) : Int))), (5, .int (zi (0 : Int)))]) K dX9_nextOf_76 (by decide) rfl ?_
              refine z_iinc (lv' := [(0, .ref (ad 39)), (1, .ref (ad 46)), (2, .int (zi row)), (3, .int (zi ((k : Nat) : Int))), (4, .int (zi (((k : Nat) : Int) + (-1 : Int)))), (5, .int (zi (0 : Int)))]) K dX9_nextOf_77 rfl (by decide) rfl ?_
              refine z_goto (tgt := 11) K dX9_nextOf_80 (by decide) ?_
              refine z_ipick [0, 1, 2, 3, 4] rfl ?_
              exact ih k (by omega) _ (by omega) (znx_take hnx ⟨by omega, by omega⟩ (by first | exact Or.inl h51 | exact Or.inr ⟨m, rfl, by omega⟩) (by omega))
            · obtain ⟨m, rfl, hm1, hm2, hm3, hm4, hm5⟩ : ∃ b : Nat, f = (b : Int) ∧ k + 1 ≤ b ∧ b < n ∧ zel c row b ∧ (∀ j, k + 1 ≤ j → j < n → zel c row j → zdl n kd al c b ≤ zdl n kd al c j) ∧ ∀ j, k + 1 ≤ j → j < b → zel c row j → zdl n kd al c b < zdl n kd al c j := by
                rcases hnx with h | h
                · exact absurd h.1 h51
                · exact h
              have hz1 := zdl_rg hpk hw (l := k) (by omega)
              have hz2 := zdl_rg hpk hw (l := m) hm2
              refine z_aload_n K dX9_nextOf_54 rfl ?_
              refine z_aload_n K dX9_nextOf_55 rfl ?_
              refine z_iload K dX9_nextOf_56 rfl ?_
              refine z_callVd K hl1 hg1 (kb := 39) (As := [.ref (ad 46), .int (zi ((k : Nat) : Int))]) (rest := []) (cm_toWait_g la g0 ad μ n nc S kd al wt an c hm hw hg k (by omega)) (by decide) lk_X9_131 cd_X9_toWait rfl rfl rfl rfl (Nat.le_of_ble_eq_true rfl) dX9_nextOf_58 ?_
              refine z_aload_n K dX9_nextOf_61 rfl ?_
              refine z_aload_n K dX9_nextOf_62 rfl ?_
              refine z_iload_n K dX9_nextOf_63 rfl ?_
              refine z_callVd K hl1 hg1 (kb := 39) (As := [.ref (ad 46), .int (zi ((m : Nat) : Int))]) (rest := [.int (zi (zdl n kd al c k))]) (cm_toWait_g la g0 ad μ n nc S kd al wt an c hm hw hg m hm2) (by decide) lk_X9_131 cd_X9_toWait rfl rfl rfl rfl (Nat.le_of_ble_eq_true rfl) dX9_nextOf_64 ?_
              refine z_icmpgt (tgt := 75) K dX9_nextOf_67 (by decide) (by omega) (by omega) (fun h67 => ?_) (fun h67 => ?_)
              · refine z_iload_n K dX9_nextOf_75 rfl ?_
                refine z_istore_n (lv' := [(0, .ref (ad 39)), (1, .ref (ad 46)), (2, .int (zi row)), (3, .int (zi ((m : Nat) : Int))), (4, .int (zi ((k : Nat) : Int))), (5, .int (zi (0 : Int)))]) K dX9_nextOf_76 (by decide) rfl ?_
                refine z_iinc (lv' := [(0, .ref (ad 39)), (1, .ref (ad 46)), (2, .int (zi row)), (3, .int (zi ((m : Nat) : Int))), (4, .int (zi (((k : Nat) : Int) + (-1 : Int)))), (5, .int (zi (0 : Int)))]) K dX9_nextOf_77 rfl (by decide) rfl ?_
                refine z_goto (tgt := 11) K dX9_nextOf_80 (by decide) ?_
                refine z_ipick [0, 1, 2, 3, 4] rfl ?_
                exact ih k (by omega) _ (by omega) (znx_keep hnx (by first | exact fun _ => ⟨m, rfl, by omega⟩ | exact fun he => absurd he (by unfold zel; omega)))
              · refine z_iload K dX9_nextOf_70 rfl ?_
                refine z_goto (tgt := 76) K dX9_nextOf_72 (by decide) ?_
                refine z_istore_n (lv' := [(0, .ref (ad 39)), (1, .ref (ad 46)), (2, .int (zi row)), (3, .int (zi ((k : Nat) : Int))), (4, .int (zi ((k : Nat) : Int))), (5, .int (zi (0 : Int)))]) K dX9_nextOf_76 (by decide) rfl ?_
                refine z_iinc (lv' := [(0, .ref (ad 39)), (1, .ref (ad 46)), (2, .int (zi row)), (3, .int (zi ((k : Nat) : Int))), (4, .int (zi (((k : Nat) : Int) + (-1 : Int)))), (5, .int (zi (0 : Int)))]) K dX9_nextOf_77 rfl (by decide) rfl ?_
                refine z_goto (tgt := 11) K dX9_nextOf_80 (by decide) ?_
                refine z_ipick [0, 1, 2, 3, 4] rfl ?_
                exact ih k (by omega) _ (by omega) (znx_take hnx ⟨by omega, by omega⟩ (by first | exact Or.inl h51 | exact Or.inr ⟨m, rfl, by omega⟩) (by omega))
        · refine z_iconst K dX9_nextOf_36 ?_
          refine z_goto (tgt := 41) K dX9_nextOf_37 (by decide) ?_
          refine z_istore (lv' := [(0, .ref (ad 39)), (1, .ref (ad 46)), (2, .int (zi row)), (3, .int (zi f)), (4, .int (zi ((k : Nat) : Int))), (5, .int (zi (1 : Int)))]) K dX9_nextOf_41 (by decide) rfl ?_
          refine z_iload K dX9_nextOf_43 rfl ?_
          refine z_ifeq (tgt := 75) K dX9_nextOf_45 (by decide) ⟨by decide, by decide⟩ (fun h45 => ?_) (fun h45 => ?_)
          · refine z_iload_n K dX9_nextOf_75 rfl ?_
            refine z_istore_n (lv' := [(0, .ref (ad 39)), (1, .ref (ad 46)), (2, .int (zi row)), (3, .int (zi f)), (4, .int (zi ((k : Nat) : Int))), (5, .int (zi (1 : Int)))]) K dX9_nextOf_76 (by decide) rfl ?_
            refine z_iinc (lv' := [(0, .ref (ad 39)), (1, .ref (ad 46)), (2, .int (zi row)), (3, .int (zi f)), (4, .int (zi (((k : Nat) : Int) + (-1 : Int)))), (5, .int (zi (1 : Int)))]) K dX9_nextOf_77 rfl (by decide) rfl ?_
            refine z_goto (tgt := 11) K dX9_nextOf_80 (by decide) ?_
            refine z_ipick [0, 1, 2, 3, 4] rfl ?_
            exact ih k (by omega) _ (by omega) (znx_keep hnx (by first | exact fun _ => ⟨m, rfl, by omega⟩ | exact fun he => absurd he (by unfold zel; omega)))
          · refine z_iload_n K dX9_nextOf_48 rfl ?_
            refine z_bipush K dX9_nextOf_49 (by decide +kernel) ?_
            refine z_icmpeq (tgt := 70) K dX9_nextOf_51 (by decide) (by omega) ⟨by decide, by decide⟩ (fun h51 => ?_) (fun h51 => ?_)
            · refine z_iload K dX9_nextOf_70 rfl ?_
              refine z_goto (tgt := 76) K dX9_nextOf_72 (by decide) ?_
              refine z_istore_n (lv' := [(0, .ref (ad 39)), (1, .ref (ad 46)), (2, .int (zi row)), (3, .int (zi ((k : Nat) : Int))), (4, .int (zi ((k : Nat) : Int))), (5, .int (zi (1 : Int)))]) K dX9_nextOf_76 (by decide) rfl ?_
              refine z_iinc (lv' := [(0, .ref (ad 39)), (1, .ref (ad 46)), (2, .int (zi row)), (3, .int (zi ((k : Nat) : Int))), (4, .int (zi (((k : Nat) : Int) + (-1 : Int)))), (5, .int (zi (1 : Int)))]) K dX9_nextOf_77 rfl (by decide) rfl ?_
              refine z_goto (tgt := 11) K dX9_nextOf_80 (by decide) ?_
              refine z_ipick [0, 1, 2, 3, 4] rfl ?_
              exact ih k (by omega) _ (by omega) (znx_take hnx ⟨by omega, by omega⟩ (by first | exact Or.inl h51 | exact Or.inr ⟨m, rfl, by omega⟩) (by omega))
            · obtain ⟨m, rfl, hm1, hm2, hm3, hm4, hm5⟩ : ∃ b : Nat, f = (b : Int) ∧ k + 1 ≤ b ∧ b < n ∧ zel c row b ∧ (∀ j, k + 1 ≤ j → j < n → zel c row j → zdl n kd al c b ≤ zdl n kd al c j) ∧ ∀ j, k + 1 ≤ j → j < b → zel c row j → zdl n kd al c b < zdl n kd al c j := by
                rcases hnx with h | h
                · exact absurd h.1 h51
                · exact h
              have hz1 := zdl_rg hpk hw (l := k) (by omega)
              have hz2 := zdl_rg hpk hw (l := m) hm2
              refine z_aload_n K dX9_nextOf_54 rfl ?_
              refine z_aload_n K dX9_nextOf_55 rfl ?_
              refine z_iload K dX9_nextOf_56 rfl ?_
              refine z_callVd K hl1 hg1 (kb := 39) (As := [.ref (ad 46), .int (zi ((k : Nat) : Int))]) (rest := []) (cm_toWait_g la g0 ad μ n nc S kd al wt an c hm hw hg k (by omega)) (by decide) lk_X9_131 cd_X9_toWait rfl rfl rfl rfl (Nat.le_of_ble_eq_true rfl) dX9_nextOf_58 ?_
              refine z_aload_n K dX9_nextOf_61 rfl ?_
              refine z_aload_n K dX9_nextOf_62 rfl ?_
              refine z_iload_n K dX9_nextOf_63 rfl ?_
              refine z_callVd K hl1 hg1 (kb := 39) (As := [.ref (ad 46), .int (zi ((m : Nat) : Int))]) (rest := [.int (zi (zdl n kd al c k))]) (cm_toWait_g la g0 ad μ n nc S kd al wt an c hm hw hg m hm2) (by decide) lk_X9_131 cd_X9_toWait rfl rfl rfl rfl (Nat.le_of_ble_eq_true rfl) dX9_nextOf_64 ?_
              refine z_icmpgt (tgt := 75) K dX9_nextOf_67 (by decide) (by omega) (by omega) (fun h67 => ?_) (fun h67 => ?_)
              · refine z_iload_n K dX9_nextOf_75 rfl ?_
                refine z_istore_n (lv' := [(0, .ref (ad 39)), (1, .ref (ad 46)), (2, .int (zi row)), (3, .int (zi ((m : Nat) : Int))), (4, .int (zi ((k : Nat) : Int))), (5, .int (zi (1 : Int)))]) K dX9_nextOf_76 (by decide) rfl ?_
                refine z_iinc (lv' := [(0, .ref (ad 39)), (1, .ref (ad 46)), (2, .int (zi row)), (3, .int (zi ((m : Nat) : Int))), (4, .int (zi (((k : Nat) : Int) + (-1 : Int)))), (5, .int (zi (1 : Int)))]) K dX9_nextOf_77 rfl (by decide) rfl ?_
                refine z_goto (tgt := 11) K dX9_nextOf_80 (by decide) ?_
                refine z_ipick [0, 1, 2, 3, 4] rfl ?_
                exact ih k (by omega) _ (by omega) (znx_keep hnx (by first | exact fun _ => ⟨m, rfl, by omega⟩ | exact fun he => absurd he (by unfold zel; omega)))
              · refine z_iload K dX9_nextOf_70 rfl ?_
                refine z_goto (tgt := 76) K dX9_nextOf_72 (by decide) ?_
                refine z_istore_n (lv' := [(0, .ref (ad 39)), (1, .ref (ad 46)), (2, .int (zi row)), (3, .int (zi ((k : Nat) : Int))), (4, .int (zi ((k : Nat) : Int))), (5, .int (zi (1 : Int)))]) K dX9_nextOf_76 (by decide) rfl ?_
                refine z_iinc (lv' := [(0, .ref (ad 39)), (1, .ref (ad 46)), (2, .int (zi row)), (3, .int (zi ((k : Nat) : Int))), (4, .int (zi (((k : Nat) : Int) + (-1 : Int)))), (5, .int (zi (1 : Int)))]) K dX9_nextOf_77 rfl (by decide) rfl ?_
                refine z_goto (tgt := 11) K dX9_nextOf_80 (by decide) ?_
                refine z_ipick [0, 1, 2, 3, 4] rfl ?_
                exact ih k (by omega) _ (by omega) (znx_take hnx ⟨by omega, by omega⟩ (by first | exact Or.inl h51 | exact Or.inr ⟨m, rfl, by omega⟩) (by omega))
  rw [hn, show (n : Int) - (1 : Int) = ((n : Nat) : Int) + (-1 : Int) from rfl]
  exact L11 n _ (Nat.le_refl _) (Or.inl ⟨rfl, fun j h1 h2 => absurd h1 (by omega)⟩)
set_option maxHeartbeats 4000000 in
set_option maxRecDepth 100000 in
theorem cm_nextOf_r (la : Launch) (g0 : zG) (ad : Nat → Nat) (μ : zMem) (n nc S : Nat) (kd al wt an c : Nat → Int) (hm : zMP μ n nc kd al wt an) (hw : zHW n nc c) (hg : zAg n nc S (μ 47) c) (row : Int) (hrow : 0 ≤ row ∧ row ≤ 3) : zCon la g0 yX9_nextOf cX9_nextOf 6 (some .int) 3 ad zSH [.ref (ad 39), .ref (ad 47), .int (zi row)] μ (zPd μ (zmp n kd al c row n).1) := by
  refine zCon_of (by decide +kernel) (Nat.le_of_ble_eq_true rfl) ?_
  intro χ K T hl1 hg1
  have K : zOk χ cX9_nextOf RX9 6 3 (some .int) := K
  obtain ⟨hn, hnc, hpl, hpa, hpk⟩ := id hm
  have hn6 := hpk.1
  have hnc3 := hpk.2.1
  show zV χ 6 ad zSH 0 0 0 [(0, .ref (ad 39)), (1, .ref (ad 47)), (2, .int (zi row))] [] μ
  refine z_bipush K dX9_nextOf_0 (by decide +kernel) ?_
  refine z_istore_n (lv' := [(0, .ref (ad 39)), (1, .ref (ad 47)), (2, .int (zi row)), (3, .int (zi (-9 : Int)))]) K dX9_nextOf_2 (by decide) rfl ?_
  refine z_aload_n K dX9_nextOf_3 rfl ?_
  refine z_get (k := 39) (v := .int (zi (μ 39 4))) K dX9_nextOf_4 fl_X9_63 rfl rfl rfl ?_
  refine z_iconst K dX9_nextOf_7 ?_
  refine z_isub K dX9_nextOf_8 ?_
  refine z_istore (lv' := [(0, .ref (ad 39)), (1, .ref (ad 47)), (2, .int (zi row)), (3, .int (zi (-9 : Int))), (4, .int (zi ((μ 39 4) - (1 : Int))))]) K dX9_nextOf_9 (by decide) rfl ?_
  have L11 : ∀ j, ∀ f : Int, j ≤ n → znx n kd al c row j f → zV χ 6 ad zSH 0 0 11 [(0, .ref (ad 39)), (1, .ref (ad 47)), (2, .int (zi row)), (3, .int (zi f)), (4, .int (zi (((j : Nat) : Int) + (-1 : Int))))] [] μ := by
    refine zdown ?_
    intro j ih f hj hnx
    have hfr : -9 ≤ f ∧ f ≤ 6 := by rcases hnx with h | ⟨b, h1, h2, h3, h4⟩ <;> omega
    refine z_iload K dX9_nextOf_11 rfl ?_
    refine z_iflt (tgt := 83) K dX9_nextOf_13 (by decide) (by omega) (fun h13 => ?_) (fun h13 => ?_)
    · refine z_iload_n K dX9_nextOf_83 rfl ?_
      exact z_iretd K T rfl dX9_nextOf_84 (znx_mp (by rw [show j = 0 by omega] at hnx; exact hnx)) rfl
    · obtain ⟨k, rfl⟩ : ∃ k, j = k + 1 := ⟨j - 1, by omega⟩
      rw [show ((k + 1 : Nat) : Int) + (-1 : Int) = ((k : Nat) : Int) by omega]
      have ag := hg.1 k (by omega)
      have hwo := hw.1 k (by omega)
      refine z_aload_n K dX9_nextOf_16 rfl ?_
      refine z_bipush K dX9_nextOf_17 (by decide +kernel) ?_
      refine z_iload K dX9_nextOf_19 rfl ?_
      refine z_iadd K dX9_nextOf_21 ?_
      refine z_iald (k := 47) (v := c (12 + k)) K dX9_nextOf_22 (6 + k) rfl (by decide) (by omega) (by omega) ag.2.1 ?_
      refine z_ifne (tgt := 40) K dX9_nextOf_23 (by decide) (by omega) (fun h23 => ?_) (fun h23 => ?_)
      · refine z_iconst K dX9_nextOf_40 ?_
        refine z_istore (lv' := [(0, .ref (ad 39)), (1, .ref (ad 47)), (2, .int (zi row)), (3, .int (zi f)), (4, .int (zi ((k : Nat) : Int))), (5, .int (zi (0 : Int)))]) K dX9_nextOf_41 (by decide) rfl ?_
        refine z_iload K dX9_nextOf_43 rfl ?_
        refine z_ifeq (tgt := 75) K dX9_nextOf_45 (by decide) ⟨by decide, by decide⟩ (fun h45 => ?_) (fun h45 => ?_)
        · refine z_iload_n K dX9_nextOf_75 rfl ?_
          refine z_istore_n (lv' := [(0, .ref (ad 39)), (1, .ref (ad 47)), (2, .int (zi row)), (3, .int (zi f)), (4, .int (zi ((k : Nat) : Int))), (5, .int (zi (0 : Int)))]) K dX9_nextOf_76 (by decide) rfl ?_
          refine z_iinc (lv' := [(0, .ref (ad 39)), (1, .ref (ad 47)), (2, .int (zi row)), (3, .int (zi f)), (4, .int (zi (((k : Nat) : Int) + (-1 : Int)))), (5, .int (zi (0 : Int)))]) K dX9_nextOf_77 rfl (by decide) rfl ?_
          refine z_goto (tgt := 11) K dX9_nextOf_80 (by decide) ?_
          refine z_ipick [0, 1, 2, 3, 4] rfl ?_
          exact ih k (by omega) _ (by omega) (znx_keep hnx (by first | exact fun _ => ⟨m, rfl, by omega⟩ | exact fun he => absurd he (by unfold zel; omega)))
        · refine z_iload_n K dX9_nextOf_48 rfl ?_
          refine z_bipush K dX9_nextOf_49 (by decide +kernel) ?_
          refine z_icmpeq (tgt := 70) K dX9_nextOf_51 (by decide) (by omega) ⟨by decide, by decide⟩ (fun h51 => ?_) (fun h51 => ?_)
          · refine z_iload K dX9_nextOf_70 rfl ?_
            refine z_goto (tgt := 76) K dX9_nextOf_72 (by decide) ?_
            refine z_istore_n (lv' := [(0, .ref (ad 39)), (1, .ref (ad 47)), (2, .int (zi row)), (3, .int (zi ((k : Nat) : Int))), (4, .int (zi ((k : Nat) : Int))), (5, .int (zi (0 : Int)))]) K dX9_nextOf_76 (by decide) rfl ?_
            refine z_iinc (lv' := [(0, .ref (ad 39)), (1, .ref (ad 47)), (2, .int (zi row)), (3, .int (zi ((k : Nat) : Int))), (4, .int (zi (((k : Nat) : Int) + (-1 : Int)))), (5, .int (zi (0 : Int)))]) K dX9_nextOf_77 rfl (by decide) rfl ?_
            refine z_goto (tgt := 11) K dX9_nextOf_80 (by decide) ?_
            refine z_ipick [0, 1, 2, 3, 4] rfl ?_
            exact ih k (by omega) _ (by omega) (znx_take hnx ⟨by omega, by omega⟩ (by first | exact Or.inl h51 | exact Or.inr ⟨m, rfl, by omega⟩) (by omega))
          · obtain ⟨m, rfl, hm1, hm2, hm3, hm4, hm5⟩ : ∃ b : Nat, f = (b : Int) ∧ k + 1 ≤ b ∧ b < n ∧ zel c row b ∧ (∀ j, k + 1 ≤ j → j < n → zel c row j → zdl n kd al c b ≤ zdl n kd al c j) ∧ ∀ j, k + 1 ≤ j → j < b → zel c row j → zdl n kd al c b < zdl n kd al c j := by
              rcases hnx with h | h
              · exact absurd h.1 h51
              · exact h
            have hz1 := zdl_rg hpk hw (l := k) (by omega)
            have hz2 := zdl_rg hpk hw (l := m) hm2
            refine z_aload_n K dX9_nextOf_54 rfl ?_
            refine z_aload_n K dX9_nextOf_55 rfl ?_
            refine z_iload K dX9_nextOf_56 rfl ?_
            refine z_callVd K hl1 hg1 (kb := 39) (As := [.ref (ad 47), .int (zi ((k : Nat) : Int))]) (rest := []) (cm_toWait_r la g0 ad μ n nc S kd al wt an c hm hw hg k (by omega)) (by decide) lk_X9_131 cd_X9_toWait rfl rfl rfl rfl (Nat.le_of_ble_eq_true rfl) dX9_nextOf_58 ?_
            refine z_aload_n K dX9_nextOf_61 rfl ?_
            refine z_aload_n K dX9_nextOf_62 rfl ?_
            refine z_iload_n K dX9_nextOf_63 rfl ?_
            refine z_callVd K hl1 hg1 (kb := 39) (As := [.ref (ad 47), .int (zi ((m : Nat) : Int))]) (rest := [.int (zi (zdl n kd al c k))]) (cm_toWait_r la g0 ad μ n nc S kd al wt an c hm hw hg m hm2) (by decide) lk_X9_131 cd_X9_toWait rfl rfl rfl rfl (Nat.le_of_ble_eq_true rfl) dX9_nextOf_64 ?_
            refine z_icmpgt (tgt := 75) K dX9_nextOf_67 (by decide) (by omega) (by omega) (fun h67 => ?_) (fun h67 => ?_)
            · refine z_iload_n K dX9_nextOf_75 rfl ?_
              refine z_istore_n (lv' := [(0, .ref (ad 39)), (1, .ref (ad 47)), (2, .int (zi row)), (3, .int (zi ((m : Nat) : Int))), (4, .int (zi ((k : Nat) : Int))), (5, .int (zi (0 : Int)))]) K dX9_nextOf_76 (by decide) rfl ?_
              refine z_iinc (lv' := [(0, .ref (ad 39)), (1, .ref (ad 47)), (2, .int (zi row)), (3, .int (zi ((m : Nat) : Int))), (4, .int (zi (((k : Nat) : Int) + (-1 : Int)))), (5, .int (zi (0 : Int)))]) K dX9_nextOf_77 rfl (by decide) rfl ?_
              refine z_goto (tgt := 11) K dX9_nextOf_80 (by decide) ?_
              refine z_ipick [0, 1, 2, 3, 4] rfl ?_
              exact ih k (by omega) _ (by omega) (znx_keep hnx (by first | exact fun _ => ⟨m, rfl, by omega⟩ | exact fun he => absurd he (by unfold zel; omega)))
            · refine z_iload K dX9_nextOf_70 rfl ?_
              refine z_goto (tgt := 76) K dX9_nextOf_72 (by decide) ?_
              refine z_istore_n (lv' := [(0, .ref (ad 39)), (1, .ref (ad 47)), (2, .int (zi row)), (3, .int (zi ((k : Nat) : Int))), (4, .int (zi ((k : Nat) : Int))), (5, .int (zi (0 : Int)))]) K dX9_nextOf_76 (by decide) rfl ?_
              refine z_iinc (lv' := [(0, .ref (ad 39)), (1, .ref (ad 47)), (2, .int (zi row)), (3, .int (zi ((k : Nat) : Int))), (4, .int (zi (((k : Nat) : Int) + (-1 : Int)))), (5, .int (zi (0 : Int)))]) K dX9_nextOf_77 rfl (by decide) rfl ?_
              refine z_goto (tgt := 11) K dX9_nextOf_80 (by decide) ?_
              refine z_ipick [0, 1, 2, 3, 4] rfl ?_
              exact ih k (by omega) _ (by omega) (znx_take hnx ⟨by omega, by omega⟩ (by first | exact Or.inl h51 | exact Or.inr ⟨m, rfl, by omega⟩) (by omega))
      · refine z_aload_n K dX9_nextOf_26 rfl ?_
        refine z_iload K dX9_nextOf_27 rfl ?_
        refine z_iald (k := 47) (v := c k) K dX9_nextOf_29 k rfl (by decide) (by omega) (by omega) ag.1 ?_
        refine z_iconst K dX9_nextOf_30 ?_
        refine z_idiv K dX9_nextOf_31 (by omega) (by omega) ?_
        refine z_iload_n K dX9_nextOf_32 rfl ?_
        refine z_icmpne (tgt := 40) K dX9_nextOf_33 (by decide) (by omega) (by omega) (fun h33 => ?_) (fun h33 => ?_)
        · refine z_iconst K dX9_nextOf_40 ?_
          refine z_istore (lv' := [(0, .ref (ad 39)), (1, .ref (ad 47)), (2, .int (zi row)), (3, .int (zi f)), (4, .int (zi ((k : Nat) : Int))), (5, .int (zi (0 : Int)))]) K dX9_nextOf_41 (by decide) rfl ?_
          refine z_iload K dX9_nextOf_43 rfl ?_
          refine z_ifeq (tgt := 75) K dX9_nextOf_45 (by decide) ⟨by decide, by decide⟩ (fun h45 => ?_) (fun h45 => ?_)
          · refine z_iload_n K dX9_nextOf_75 rfl ?_
            refine z_istore_n (lv' := [(0, .ref (ad 39)), (1, .ref (ad 47)), (2, .int (zi row)), (3, .int (zi f)), (4, .int (zi ((k : Nat) : Int))), (5, .int (zi (0 : Int)))]) K dX9_nextOf_76 (by decide) rfl ?_
            refine z_iinc (lv' := [(0, .ref (ad 39)), (1, .ref (ad 47)), (2, .int (zi row)), (3, .int (zi f)), (4, .int (zi (((k : Nat) : Int) + (-1 : Int)))), (5, .int (zi (0 : Int)))]) K dX9_nextOf_77 rfl (by decide) rfl ?_
            refine z_goto (tgt := 11) K dX9_nextOf_80 (by decide) ?_
            refine z_ipick [0, 1, 2, 3, 4] rfl ?_
            exact ih k (by omega) _ (by omega) (znx_keep hnx (by first | exact fun _ => ⟨m, rfl, by omega⟩ | exact fun he => absurd he (by unfold zel; omega)))
          · refine z_iload_n K dX9_nextOf_48 rfl ?_
            refine z_bipush K dX9_nextOf_49 (by decide +kernel) ?_
            refine z_icmpeq (tgt := 70) K dX9_nextOf_51 (by decide) (by omega) ⟨by decide, by decide⟩ (fun h51 => ?_) (fun h51 => ?_)
            · refine z_iload K dX9_nextOf_70 rfl ?_
              refine z_goto (tgt := 76) K dX9_nextOf_72 (by decide) ?_
              refine z_istore_n (lv' := [(0, .ref (ad 39)), (1, .ref (ad 47)), (2, .int (zi row)), (3, .int (zi ((k : Nat) : Int))), (4, .int (zi ((k : Nat) : Int))), (5, .int (zi (0 : Int)))]) K dX9_nextOf_76 (by decide) rfl ?_
              refine z_iinc (lv' := [(0, .ref (ad 39)), (1, .ref (ad 47)), (2, .int (zi row)), (3, .int (zi ((k : Nat) : Int))), (4, .int (zi (((k : Nat) : Int) + (-1 : Int)))), (5, .int (zi (0 : Int)))]) K dX9_nextOf_77 rfl (by decide) rfl ?_
              refine z_goto (tgt := 11) K dX9_nextOf_80 (by decide) ?_
              refine z_ipick [0, 1, 2, 3, 4] rfl ?_
              exact ih k (by omega) _ (by omega) (znx_take hnx ⟨by omega, by omega⟩ (by first | exact Or.inl h51 | exact Or.inr ⟨m, rfl, by omega⟩) (by omega))
            · obtain ⟨m, rfl, hm1, hm2, hm3, hm4, hm5⟩ : ∃ b : Nat, f = (b : Int) ∧ k + 1 ≤ b ∧ b < n ∧ zel c row b ∧ (∀ j, k + 1 ≤ j → j < n → zel c row j → zdl n kd al c b ≤ zdl n kd al c j) ∧ ∀ j, k + 1 ≤ j → j < b → zel c row j → zdl n kd al c b < zdl n kd al c j := by
                rcases hnx with h | h
                · exact absurd h.1 h51
                · exact h
              have hz1 := zdl_rg hpk hw (l := k) (by omega)
              have hz2 := zdl_rg hpk hw (l := m) hm2
              refine z_aload_n K dX9_nextOf_54 rfl ?_
              refine z_aload_n K dX9_nextOf_55 rfl ?_
              refine z_iload K dX9_nextOf_56 rfl ?_
              refine z_callVd K hl1 hg1 (kb := 39) (As := [.ref (ad 47), .int (zi ((k : Nat) : Int))]) (rest := []) (cm_toWait_r la g0 ad μ n nc S kd al wt an c hm hw hg k (by omega)) (by decide) lk_X9_131 cd_X9_toWait rfl rfl rfl rfl (Nat.le_of_ble_eq_true rfl) dX9_nextOf_58 ?_
              refine z_aload_n K dX9_nextOf_61 rfl ?_
              refine z_aload_n K dX9_nextOf_62 rfl ?_
              refine z_iload_n K dX9_nextOf_63 rfl ?_
              refine z_callVd K hl1 hg1 (kb := 39) (As := [.ref (ad 47), .int (zi ((m : Nat) : Int))]) (rest := [.int (zi (zdl n kd al c k))]) (cm_toWait_r la g0 ad μ n nc S kd al wt an c hm hw hg m hm2) (by decide) lk_X9_131 cd_X9_toWait rfl rfl rfl rfl (Nat.le_of_ble_eq_true rfl) dX9_nextOf_64 ?_
              refine z_icmpgt (tgt := 75) K dX9_nextOf_67 (by decide) (by omega) (by omega) (fun h67 => ?_) (fun h67 => ?_)
              · refine z_iload_n K dX9_nextOf_75 rfl ?_
                refine z_istore_n (lv' := [(0, .ref (ad 39)), (1, .ref (ad 47)), (2, .int (zi row)), (3, .int (zi ((m : Nat) : Int))), (4, .int (zi ((k : Nat) : Int))), (5, .int (zi (0 : Int)))]) K dX9_nextOf_76 (by decide) rfl ?_
                refine z_iinc (lv' := [(0, .ref (ad 39)), (1, .ref (ad 47)), (2, .int (zi row)), (3, .int (zi ((m : Nat) : Int))), (4, .int (zi (((k : Nat) : Int) + (-1 : Int)))), (5, .int (zi (0 : Int)))]) K dX9_nextOf_77 rfl (by decide) rfl ?_
                refine z_goto (tgt := 11) K dX9_nextOf_80 (by decide) ?_
                refine z_ipick [0, 1, 2, 3, 4] rfl ?_
                exact ih k (by omega) _ (by omega) (znx_keep hnx (by first | exact fun _ => ⟨m, rfl, by omega⟩ | exact fun he => absurd he (by unfold zel; omega)))
              · refine z_iload K dX9_nextOf_70 rfl ?_
                refine z_goto (tgt := 76) K dX9_nextOf_72 (by decide) ?_
                refine z_istore_n (lv' := [(0, .ref (ad 39)), (1, .ref (ad 47)), (2, .int (zi row)), (3, .int (zi ((k : Nat) : Int))), (4, .int (zi ((k : Nat) : Int))), (5, .int (zi (0 : Int)))]) K dX9_nextOf_76 (by decide) rfl ?_
                refine z_iinc (lv' := [(0, .ref (ad 39)), (1, .ref (ad 47)), (2, .int (zi row)), (3, .int (zi ((k : Nat) : Int))), (4, .int (zi (((k : Nat) : Int) + (-1 : Int)))), (5, .int (zi (0 : Int)))]) K dX9_nextOf_77 rfl (by decide) rfl ?_
                refine z_goto (tgt := 11) K dX9_nextOf_80 (by decide) ?_
                refine z_ipick [0, 1, 2, 3, 4] rfl ?_
                exact ih k (by omega) _ (by omega) (znx_take hnx ⟨by omega, by omega⟩ (by first | exact Or.inl h51 | exact Or.inr ⟨m, rfl, by omega⟩) (by omega))
        · refine z_iconst K dX9_nextOf_36 ?_
          refine z_goto (tgt := 41) K dX9_nextOf_37 (by decide) ?_
          refine z_istore (lv' := [(0, .ref (ad 39)), (1, .ref (ad 47)), (2, .int (zi row)), (3, .int (zi f)), (4, .int (zi ((k : Nat) : Int))), (5, .int (zi (1 : Int)))]) K dX9_nextOf_41 (by decide) rfl ?_
          refine z_iload K dX9_nextOf_43 rfl ?_
          refine z_ifeq (tgt := 75) K dX9_nextOf_45 (by decide) ⟨by decide, by decide⟩ (fun h45 => ?_) (fun h45 => ?_)
          · refine z_iload_n K dX9_nextOf_75 rfl ?_
            refine z_istore_n (lv' := [(0, .ref (ad 39)), (1, .ref (ad 47)), (2, .int (zi row)), (3, .int (zi f)), (4, .int (zi ((k : Nat) : Int))), (5, .int (zi (1 : Int)))]) K dX9_nextOf_76 (by decide) rfl ?_
            refine z_iinc (lv' := [(0, .ref (ad 39)), (1, .ref (ad 47)), (2, .int (zi row)), (3, .int (zi f)), (4, .int (zi (((k : Nat) : Int) + (-1 : Int)))), (5, .int (zi (1 : Int)))]) K dX9_nextOf_77 rfl (by decide) rfl ?_
            refine z_goto (tgt := 11) K dX9_nextOf_80 (by decide) ?_
            refine z_ipick [0, 1, 2, 3, 4] rfl ?_
            exact ih k (by omega) _ (by omega) (znx_keep hnx (by first | exact fun _ => ⟨m, rfl, by omega⟩ | exact fun he => absurd he (by unfold zel; omega)))
          · refine z_iload_n K dX9_nextOf_48 rfl ?_
            refine z_bipush K dX9_nextOf_49 (by decide +kernel) ?_
            refine z_icmpeq (tgt := 70) K dX9_nextOf_51 (by decide) (by omega) ⟨by decide, by decide⟩ (fun h51 => ?_) (fun h51 => ?_)
            · refine z_iload K dX9_nextOf_70 rfl ?_
              refine z_goto (tgt := 76) K dX9_nextOf_72 (by decide) ?_
              refine z_istore_n (lv' := [(0, .ref (ad 39)), (1, .ref (ad 47)), (2, .int (zi row)), (3, .int (zi ((k : Nat) : Int))), (4, .int (zi ((k : Nat) : Int))), (5, .int (zi (1 : Int)))]) K dX9_nextOf_76 (by decide) rfl ?_
              refine z_iinc (lv' := [(0, .ref (ad 39)), (1, .ref (ad 47)), (2, .int (zi row)), (3, .int (zi ((k : Nat) : Int))), (4, .int (zi (((k : Nat) : Int) + (-1 : Int)))), (5, .int (zi (1 : Int)))]) K dX9_nextOf_77 rfl (by decide) rfl ?_
              refine z_goto (tgt := 11) K dX9_nextOf_80 (by decide) ?_
              refine z_ipick [0, 1, 2, 3, 4] rfl ?_
              exact ih k (by omega) _ (by omega) (znx_take hnx ⟨by omega, by omega⟩ (by first | exact Or.inl h51 | exact Or.inr ⟨m, rfl, by omega⟩) (by omega))
            · obtain ⟨m, rfl, hm1, hm2, hm3, hm4, hm5⟩ : ∃ b : Nat, f = (b : Int) ∧ k + 1 ≤ b ∧ b < n ∧ zel c row b ∧ (∀ j, k + 1 ≤ j → j < n → zel c row j → zdl n kd al c b ≤ zdl n kd al c j) ∧ ∀ j, k + 1 ≤ j → j < b → zel c row j → zdl n kd al c b < zdl n kd al c j := by
                rcases hnx with h | h
                · exact absurd h.1 h51
                · exact h
              have hz1 := zdl_rg hpk hw (l := k) (by omega)
              have hz2 := zdl_rg hpk hw (l := m) hm2
              refine z_aload_n K dX9_nextOf_54 rfl ?_
              refine z_aload_n K dX9_nextOf_55 rfl ?_
              refine z_iload K dX9_nextOf_56 rfl ?_
              refine z_callVd K hl1 hg1 (kb := 39) (As := [.ref (ad 47), .int (zi ((k : Nat) : Int))]) (rest := []) (cm_toWait_r la g0 ad μ n nc S kd al wt an c hm hw hg k (by omega)) (by decide) lk_X9_131 cd_X9_toWait rfl rfl rfl rfl (Nat.le_of_ble_eq_true rfl) dX9_nextOf_58 ?_
              refine z_aload_n K dX9_nextOf_61 rfl ?_
              refine z_aload_n K dX9_nextOf_62 rfl ?_
              refine z_iload_n K dX9_nextOf_63 rfl ?_
              refine z_callVd K hl1 hg1 (kb := 39) (As := [.ref (ad 47), .int (zi ((m : Nat) : Int))]) (rest := [.int (zi (zdl n kd al c k))]) (cm_toWait_r la g0 ad μ n nc S kd al wt an c hm hw hg m hm2) (by decide) lk_X9_131 cd_X9_toWait rfl rfl rfl rfl (Nat.le_of_ble_eq_true rfl) dX9_nextOf_64 ?_
              refine z_icmpgt (tgt := 75) K dX9_nextOf_67 (by decide) (by omega) (by omega) (fun h67 => ?_) (fun h67 => ?_)
              · refine z_iload_n K dX9_nextOf_75 rfl ?_
                refine z_istore_n (lv' := [(0, .ref (ad 39)), (1, .ref (ad 47)), (2, .int (zi row)), (3, .int (zi ((m : Nat) : Int))), (4, .int (zi ((k : Nat) : Int))), (5, .int (zi (1 : Int)))]) K dX9_nextOf_76 (by decide) rfl ?_
                refine z_iinc (lv' := [(0, .ref (ad 39)), (1, .ref (ad 47)), (2, .int (zi row)), (3, .int (zi ((m : Nat) : Int))), (4, .int (zi (((k : Nat) : Int) + (-1 : Int)))), (5, .int (zi (1 : Int)))]) K dX9_nextOf_77 rfl (by decide) rfl ?_
                refine z_goto (tgt := 11) K dX9_nextOf_80 (by decide) ?_
                refine z_ipick [0, 1, 2, 3, 4] rfl ?_
                exact ih k (by omega) _ (by omega) (znx_keep hnx (by first | exact fun _ => ⟨m, rfl, by omega⟩ | exact fun he => absurd he (by unfold zel; omega)))
              · refine z_iload K dX9_nextOf_70 rfl ?_
                refine z_goto (tgt := 76) K dX9_nextOf_72 (by decide) ?_
                refine z_istore_n (lv' := [(0, .ref (ad 39)), (1, .ref (ad 47)), (2, .int (zi row)), (3, .int (zi ((k : Nat) : Int))), (4, .int (zi ((k : Nat) : Int))), (5, .int (zi (1 : Int)))]) K dX9_nextOf_76 (by decide) rfl ?_
                refine z_iinc (lv' := [(0, .ref (ad 39)), (1, .ref (ad 47)), (2, .int (zi row)), (3, .int (zi ((k : Nat) : Int))), (4, .int (zi (((k : Nat) : Int) + (-1 : Int)))), (5, .int (zi (1 : Int)))]) K dX9_nextOf_77 rfl (by decide) rfl ?_
                refine z_goto (tgt := 11) K dX9_nextOf_80 (by decide) ?_
                refine z_ipick [0, 1, 2, 3, 4] rfl ?_
                exact ih k (by omega) _ (by omega) (znx_take hnx ⟨by omega, by omega⟩ (by first | exact Or.inl h51 | exact Or.inr ⟨m, rfl, by omega⟩) (by omega))
  rw [hn, show (n : Int) - (1 : Int) = ((n : Nat) : Int) + (-1 : Int) from rfl]
  exact L11 n _ (Nat.le_refl _) (Or.inl ⟨rfl, fun j h1 h2 => absurd h1 (by omega)⟩)
