theorem zws_in (ws : List Cond) (ps : List Nat) (hp : ws = ps.filterMap (fun i => lw_tbl[i]?)) (h : ws.all goodWord = true) : ∀ w ∈ ws, w ∈ lw_g := by
  intro w hw
  have h1 := List.all_eq_true.mp h w hw
  rw [hp] at hw
  obtain ⟨i, -, hi⟩ := List.mem_filterMap.mp hw
  exact zg_in i hi h1
theorem in_X0 : ∀ w ∈ u_ws RX0 TX0 1, w ∈ lw_g := zws_in _ [254] (by decide +kernel) (by decide +kernel)
theorem in_X1 : ∀ w ∈ u_ws RX1 TX1 3, w ∈ lw_g := zws_in _ [153, 155, 157] (by decide +kernel) (by decide +kernel)
theorem in_X2 : ∀ w ∈ u_ws RX2 TX2 8, w ∈ lw_g := zws_in _ [177, 179, 181, 183, 185, 187, 189, 191] (by decide +kernel) (by decide +kernel)
theorem in_X3 : ∀ w ∈ u_ws RX3 TX3 3, w ∈ lw_g := zws_in _ [220, 222, 224] (by decide +kernel) (by decide +kernel)
theorem in_X4 : ∀ w ∈ u_ws RX4 TX4 9, w ∈ lw_g := zws_in _ [109, 111, 113, 115, 117, 119, 121, 123, 125] (by decide +kernel) (by decide +kernel)
theorem in_X5 : ∀ w ∈ u_ws RX5 TX5 3, w ∈ lw_g := zws_in _ [133, 135, 137] (by decide +kernel) (by decide +kernel)
theorem in_X6 : ∀ w ∈ u_ws RX6 TX6 2, w ∈ lw_g := zws_in _ [211, 213] (by decide +kernel) (by decide +kernel)
theorem in_X7 : ∀ w ∈ u_ws RX7 TX7 3, w ∈ lw_g := zws_in _ [239, 241, 243] (by decide +kernel) (by decide +kernel)
theorem in_X8 : ∀ w ∈ u_ws RX8 TX8 10, w ∈ lw_g := zws_in _ [267, 269, 271, 273, 275, 277, 279, 281, 283, 285] (by decide +kernel) (by decide +kernel)
theorem in_X9 : ∀ w ∈ u_ws RX9 TX9 34, w ∈ lw_g := zws_in _ [768, 770, 772, 774, 776, 778, 780, 782, 784, 786, 788, 790, 792, 794, 796, 798, 800, 802, 804, 806, 808, 810, 812, 814, 816, 818, 820, 822, 824, 826, 828, 830, 832, 834] (by decide +kernel) (by decide +kernel)
theorem fl_X4_30 : zFl RX4 30 4 0 := ⟨RX4, TX4, 9, rfl, by decide, (Or.inl (zg_in 76 (by decide +kernel) rfl)), in_X4⟩
theorem fp_X4_30 : zFp RX4 30 4 0 .int := ⟨RX4, TX4, 9, tyX4, rfl, by decide, (Or.inl (zg_in 76 (by decide +kernel) rfl)), in_X4, tyX4_ok, nmX4, rfl, by decide +kernel⟩
theorem fl_X1_22 : zFl RX1 22 4 0 := ⟨RX4, TX4, 9, rfl, by decide, (Or.inr ⟨_, zn_in (w := .fieldLinkNest RX1 22 "PigeonMail$Plan" "letters" "I" "PigeonMail") 77 (by decide +kernel) rfl⟩), in_X4⟩
theorem fp_X1_22 : zFp RX1 22 4 0 .int := ⟨RX4, TX4, 9, tyX4, rfl, by decide, (Or.inr ⟨_, zn_in (w := .fieldLinkNest RX1 22 "PigeonMail$Plan" "letters" "I" "PigeonMail") 77 (by decide +kernel) rfl⟩), in_X4, tyX4_ok, nmX4, rfl, by decide +kernel⟩
theorem fl_X8_95 : zFl RX8 95 4 0 := ⟨RX4, TX4, 9, rfl, by decide, (Or.inr ⟨_, zn_in (w := .fieldLinkNest RX8 95 "PigeonMail$Plan" "letters" "I" "PigeonMail") 78 (by decide +kernel) rfl⟩), in_X4⟩
theorem fp_X8_95 : zFp RX8 95 4 0 .int := ⟨RX4, TX4, 9, tyX4, rfl, by decide, (Or.inr ⟨_, zn_in (w := .fieldLinkNest RX8 95 "PigeonMail$Plan" "letters" "I" "PigeonMail") 78 (by decide +kernel) rfl⟩), in_X4, tyX4_ok, nmX4, rfl, by decide +kernel⟩
theorem fl_X5_47 : zFl RX5 47 4 0 := ⟨RX4, TX4, 9, rfl, by decide, (Or.inr ⟨_, zn_in (w := .fieldLinkNest RX5 47 "PigeonMail$Plan" "letters" "I" "PigeonMail") 79 (by decide +kernel) rfl⟩), in_X4⟩
theorem fp_X5_47 : zFp RX5 47 4 0 .int := ⟨RX4, TX4, 9, tyX4, rfl, by decide, (Or.inr ⟨_, zn_in (w := .fieldLinkNest RX5 47 "PigeonMail$Plan" "letters" "I" "PigeonMail") 79 (by decide +kernel) rfl⟩), in_X4, tyX4_ok, nmX4, rfl, by decide +kernel⟩
theorem fl_X2_94 : zFl RX2 94 4 0 := ⟨RX4, TX4, 9, rfl, by decide, (Or.inr ⟨_, zn_in (w := .fieldLinkNest RX2 94 "PigeonMail$Plan" "letters" "I" "PigeonMail") 80 (by decide +kernel) rfl⟩), in_X4⟩
theorem fp_X2_94 : zFp RX2 94 4 0 .int := ⟨RX4, TX4, 9, tyX4, rfl, by decide, (Or.inr ⟨_, zn_in (w := .fieldLinkNest RX2 94 "PigeonMail$Plan" "letters" "I" "PigeonMail") 80 (by decide +kernel) rfl⟩), in_X4, tyX4_ok, nmX4, rfl, by decide +kernel⟩
theorem fl_X4_34 : zFl RX4 34 4 1 := ⟨RX4, TX4, 9, rfl, by decide, (Or.inl (zg_in 81 (by decide +kernel) rfl)), in_X4⟩
theorem fp_X4_34 : zFp RX4 34 4 1 .int := ⟨RX4, TX4, 9, tyX4, rfl, by decide, (Or.inl (zg_in 81 (by decide +kernel) rfl)), in_X4, tyX4_ok, nmX4, rfl, by decide +kernel⟩
theorem fl_X1_31 : zFl RX1 31 4 1 := ⟨RX4, TX4, 9, rfl, by decide, (Or.inr ⟨_, zn_in (w := .fieldLinkNest RX1 31 "PigeonMail$Plan" "clerks" "I" "PigeonMail") 82 (by decide +kernel) rfl⟩), in_X4⟩
theorem fp_X1_31 : zFp RX1 31 4 1 .int := ⟨RX4, TX4, 9, tyX4, rfl, by decide, (Or.inr ⟨_, zn_in (w := .fieldLinkNest RX1 31 "PigeonMail$Plan" "clerks" "I" "PigeonMail") 82 (by decide +kernel) rfl⟩), in_X4, tyX4_ok, nmX4, rfl, by decide +kernel⟩
theorem fl_X2_59 : zFl RX2 59 4 1 := ⟨RX4, TX4, 9, rfl, by decide, (Or.inr ⟨_, zn_in (w := .fieldLinkNest RX2 59 "PigeonMail$Plan" "clerks" "I" "PigeonMail") 83 (by decide +kernel) rfl⟩), in_X4⟩
theorem fp_X2_59 : zFp RX2 59 4 1 .int := ⟨RX4, TX4, 9, tyX4, rfl, by decide, (Or.inr ⟨_, zn_in (w := .fieldLinkNest RX2 59 "PigeonMail$Plan" "clerks" "I" "PigeonMail") 83 (by decide +kernel) rfl⟩), in_X4, tyX4_ok, nmX4, rfl, by decide +kernel⟩
theorem fl_X8_99 : zFl RX8 99 4 1 := ⟨RX4, TX4, 9, rfl, by decide, (Or.inr ⟨_, zn_in (w := .fieldLinkNest RX8 99 "PigeonMail$Plan" "clerks" "I" "PigeonMail") 84 (by decide +kernel) rfl⟩), in_X4⟩
theorem fp_X8_99 : zFp RX8 99 4 1 .int := ⟨RX4, TX4, 9, tyX4, rfl, by decide, (Or.inr ⟨_, zn_in (w := .fieldLinkNest RX8 99 "PigeonMail$Plan" "clerks" "I" "PigeonMail") 84 (by decide +kernel) rfl⟩), in_X4, tyX4_ok, nmX4, rfl, by decide +kernel⟩
theorem fl_X5_50 : zFl RX5 50 4 1 := ⟨RX4, TX4, 9, rfl, by decide, (Or.inr ⟨_, zn_in (w := .fieldLinkNest RX5 50 "PigeonMail$Plan" "clerks" "I" "PigeonMail") 85 (by decide +kernel) rfl⟩), in_X4⟩
theorem fp_X5_50 : zFp RX5 50 4 1 .int := ⟨RX4, TX4, 9, tyX4, rfl, by decide, (Or.inr ⟨_, zn_in (w := .fieldLinkNest RX5 50 "PigeonMail$Plan" "clerks" "I" "PigeonMail") 85 (by decide +kernel) rfl⟩), in_X4, tyX4_ok, nmX4, rfl, by decide +kernel⟩
theorem fl_X4_37 : zFl RX4 37 4 2 := ⟨RX4, TX4, 9, rfl, by decide, (Or.inl (zg_in 86 (by decide +kernel) rfl)), in_X4⟩
theorem fp_X4_37 : zFp RX4 37 4 2 .int := ⟨RX4, TX4, 9, tyX4, rfl, by decide, (Or.inl (zg_in 86 (by decide +kernel) rfl)), in_X4, tyX4_ok, nmX4, rfl, by decide +kernel⟩
theorem fl_X1_37 : zFl RX1 37 4 2 := ⟨RX4, TX4, 9, rfl, by decide, (Or.inr ⟨_, zn_in (w := .fieldLinkNest RX1 37 "PigeonMail$Plan" "grain" "I" "PigeonMail") 87 (by decide +kernel) rfl⟩), in_X4⟩
theorem fp_X1_37 : zFp RX1 37 4 2 .int := ⟨RX4, TX4, 9, tyX4, rfl, by decide, (Or.inr ⟨_, zn_in (w := .fieldLinkNest RX1 37 "PigeonMail$Plan" "grain" "I" "PigeonMail") 87 (by decide +kernel) rfl⟩), in_X4, tyX4_ok, nmX4, rfl, by decide +kernel⟩
theorem fl_X5_40 : zFl RX5 40 4 2 := ⟨RX4, TX4, 9, rfl, by decide, (Or.inr ⟨_, zn_in (w := .fieldLinkNest RX5 40 "PigeonMail$Plan" "grain" "I" "PigeonMail") 88 (by decide +kernel) rfl⟩), in_X4⟩
theorem fp_X5_40 : zFp RX5 40 4 2 .int := ⟨RX4, TX4, 9, tyX4, rfl, by decide, (Or.inr ⟨_, zn_in (w := .fieldLinkNest RX5 40 "PigeonMail$Plan" "grain" "I" "PigeonMail") 88 (by decide +kernel) rfl⟩), in_X4, tyX4_ok, nmX4, rfl, by decide +kernel⟩
theorem fl_X4_9 : zFl RX4 9 4 3 := ⟨RX4, TX4, 9, rfl, by decide, (Or.inl (zg_in 89 (by decide +kernel) rfl)), in_X4⟩
theorem fl_X1_28 : zFl RX1 28 4 3 := ⟨RX4, TX4, 9, rfl, by decide, (Or.inr ⟨_, zn_in (w := .fieldLinkNest RX1 28 "PigeonMail$Plan" "homes" "[I" "PigeonMail") 90 (by decide +kernel) rfl⟩), in_X4⟩
theorem fl_X5_53 : zFl RX5 53 4 3 := ⟨RX4, TX4, 9, rfl, by decide, (Or.inr ⟨_, zn_in (w := .fieldLinkNest RX5 53 "PigeonMail$Plan" "homes" "[I" "PigeonMail") 91 (by decide +kernel) rfl⟩), in_X4⟩
theorem fl_X4_15 : zFl RX4 15 4 4 := ⟨RX4, TX4, 9, rfl, by decide, (Or.inl (zg_in 92 (by decide +kernel) rfl)), in_X4⟩
theorem fl_X8_128 : zFl RX8 128 4 4 := ⟨RX4, TX4, 9, rfl, by decide, (Or.inr ⟨_, zn_in (w := .fieldLinkNest RX8 128 "PigeonMail$Plan" "waits" "[I" "PigeonMail") 93 (by decide +kernel) rfl⟩), in_X4⟩
theorem fl_X5_64 : zFl RX5 64 4 4 := ⟨RX4, TX4, 9, rfl, by decide, (Or.inr ⟨_, zn_in (w := .fieldLinkNest RX5 64 "PigeonMail$Plan" "waits" "[I" "PigeonMail") 94 (by decide +kernel) rfl⟩), in_X4⟩
theorem fl_X4_18 : zFl RX4 18 4 5 := ⟨RX4, TX4, 9, rfl, by decide, (Or.inl (zg_in 95 (by decide +kernel) rfl)), in_X4⟩
theorem fl_X8_132 : zFl RX8 132 4 5 := ⟨RX4, TX4, 9, rfl, by decide, (Or.inr ⟨_, zn_in (w := .fieldLinkNest RX8 132 "PigeonMail$Plan" "kinds" "[I" "PigeonMail") 96 (by decide +kernel) rfl⟩), in_X4⟩
theorem fl_X5_67 : zFl RX5 67 4 5 := ⟨RX4, TX4, 9, rfl, by decide, (Or.inr ⟨_, zn_in (w := .fieldLinkNest RX5 67 "PigeonMail$Plan" "kinds" "[I" "PigeonMail") 97 (by decide +kernel) rfl⟩), in_X4⟩
theorem fl_X1_61 : zFl RX1 61 4 5 := ⟨RX4, TX4, 9, rfl, by decide, (Or.inr ⟨_, zn_in (w := .fieldLinkNest RX1 61 "PigeonMail$Plan" "kinds" "[I" "PigeonMail") 98 (by decide +kernel) rfl⟩), in_X4⟩
theorem fl_X4_21 : zFl RX4 21 4 6 := ⟨RX4, TX4, 9, rfl, by decide, (Or.inl (zg_in 99 (by decide +kernel) rfl)), in_X4⟩
theorem fl_X5_70 : zFl RX5 70 4 6 := ⟨RX4, TX4, 9, rfl, by decide, (Or.inr ⟨_, zn_in (w := .fieldLinkNest RX5 70 "PigeonMail$Plan" "alone" "[I" "PigeonMail") 100 (by decide +kernel) rfl⟩), in_X4⟩
theorem fl_X1_58 : zFl RX1 58 4 6 := ⟨RX4, TX4, 9, rfl, by decide, (Or.inr ⟨_, zn_in (w := .fieldLinkNest RX1 58 "PigeonMail$Plan" "alone" "[I" "PigeonMail") 101 (by decide +kernel) rfl⟩), in_X4⟩
theorem fl_X4_24 : zFl RX4 24 4 7 := ⟨RX4, TX4, 9, rfl, by decide, (Or.inl (zg_in 102 (by decide +kernel) rfl)), in_X4⟩
theorem fl_X1_34 : zFl RX1 34 4 7 := ⟨RX4, TX4, 9, rfl, by decide, (Or.inr ⟨_, zn_in (w := .fieldLinkNest RX1 34 "PigeonMail$Plan" "posts" "[I" "PigeonMail") 103 (by decide +kernel) rfl⟩), in_X4⟩
theorem fl_X5_77 : zFl RX5 77 4 7 := ⟨RX4, TX4, 9, rfl, by decide, (Or.inr ⟨_, zn_in (w := .fieldLinkNest RX5 77 "PigeonMail$Plan" "posts" "[I" "PigeonMail") 104 (by decide +kernel) rfl⟩), in_X4⟩
theorem fl_X4_27 : zFl RX4 27 4 8 := ⟨RX4, TX4, 9, rfl, by decide, (Or.inl (zg_in 105 (by decide +kernel) rfl)), in_X4⟩
theorem fl_X5_80 : zFl RX5 80 4 8 := ⟨RX4, TX4, 9, rfl, by decide, (Or.inr ⟨_, zn_in (w := .fieldLinkNest RX5 80 "PigeonMail$Plan" "answers" "[I" "PigeonMail") 106 (by decide +kernel) rfl⟩), in_X4⟩
theorem fl_X8_150 : zFl RX8 150 4 8 := ⟨RX4, TX4, 9, rfl, by decide, (Or.inr ⟨_, zn_in (w := .fieldLinkNest RX8 150 "PigeonMail$Plan" "answers" "[I" "PigeonMail") 107 (by decide +kernel) rfl⟩), in_X4⟩
theorem fl_X1_96 : zFl RX1 96 4 8 := ⟨RX4, TX4, 9, rfl, by decide, (Or.inr ⟨_, zn_in (w := .fieldLinkNest RX1 96 "PigeonMail$Plan" "answers" "[I" "PigeonMail") 108 (by decide +kernel) rfl⟩), in_X4⟩
theorem fl_X5_9 : zFl RX5 9 5 0 := ⟨RX5, TX5, 3, rfl, by decide, (Or.inl (zg_in 129 (by decide +kernel) rfl)), in_X5⟩
theorem fl_X5_22 : zFl RX5 22 5 1 := ⟨RX5, TX5, 3, rfl, by decide, (Or.inl (zg_in 130 (by decide +kernel) rfl)), in_X5⟩
theorem fp_X5_22 : zFp RX5 22 5 1 .int := ⟨RX5, TX5, 3, tyX5, rfl, by decide, (Or.inl (zg_in 130 (by decide +kernel) rfl)), in_X5, tyX5_ok, nmX5, rfl, by decide +kernel⟩
theorem fl_X8_118 : zFl RX8 118 5 1 := ⟨RX5, TX5, 3, rfl, by decide, (Or.inr ⟨_, zn_in (w := .fieldLinkNest RX8 118 "PigeonMail$Script" "length" "I" "PigeonMail") 131 (by decide +kernel) rfl⟩), in_X5⟩
theorem fp_X8_118 : zFp RX8 118 5 1 .int := ⟨RX5, TX5, 3, tyX5, rfl, by decide, (Or.inr ⟨_, zn_in (w := .fieldLinkNest RX8 118 "PigeonMail$Script" "length" "I" "PigeonMail") 131 (by decide +kernel) rfl⟩), in_X5, tyX5_ok, nmX5, rfl, by decide +kernel⟩
theorem fl_X5_18 : zFl RX5 18 5 2 := ⟨RX5, TX5, 3, rfl, by decide, (Or.inl (zg_in 132 (by decide +kernel) rfl)), in_X5⟩
theorem fl_X1_18 : zFl RX1 18 1 0 := ⟨RX1, TX1, 3, rfl, by decide, (Or.inl (zg_in 148 (by decide +kernel) rfl)), in_X1⟩
theorem fl_X1_11 : zFl RX1 11 1 1 := ⟨RX1, TX1, 3, rfl, by decide, (Or.inl (zg_in 149 (by decide +kernel) rfl)), in_X1⟩
theorem fl_X6_25 : zFl RX6 25 1 1 := ⟨RX1, TX1, 3, rfl, by decide, (Or.inr ⟨_, zn_in (w := .fieldLinkNest RX6 25 "PigeonMail$Hall" "cells" "[I" "PigeonMail") 150 (by decide +kernel) rfl⟩), in_X1⟩
theorem fl_X1_15 : zFl RX1 15 1 2 := ⟨RX1, TX1, 3, rfl, by decide, (Or.inl (zg_in 151 (by decide +kernel) rfl)), in_X1⟩
theorem fl_X2_145 : zFl RX2 145 1 2 := ⟨RX1, TX1, 3, rfl, by decide, (Or.inr ⟨_, zn_in (w := .fieldLinkNest RX2 145 "PigeonMail$Hall" "answeredBy" "[I" "PigeonMail") 152 (by decide +kernel) rfl⟩), in_X1⟩
theorem fl_X2_24 : zFl RX2 24 2 0 := ⟨RX2, TX2, 8, rfl, by decide, (Or.inl (zg_in 168 (by decide +kernel) rfl)), in_X2⟩
theorem fl_X2_28 : zFl RX2 28 2 1 := ⟨RX2, TX2, 8, rfl, by decide, (Or.inl (zg_in 169 (by decide +kernel) rfl)), in_X2⟩
theorem fl_X2_37 : zFl RX2 37 2 2 := ⟨RX2, TX2, 8, rfl, by decide, (Or.inl (zg_in 170 (by decide +kernel) rfl)), in_X2⟩
theorem fl_X2_9 : zFl RX2 9 2 3 := ⟨RX2, TX2, 8, rfl, by decide, (Or.inl (zg_in 171 (by decide +kernel) rfl)), in_X2⟩
theorem fl_X2_15 : zFl RX2 15 2 4 := ⟨RX2, TX2, 8, rfl, by decide, (Or.inl (zg_in 172 (by decide +kernel) rfl)), in_X2⟩
theorem fl_X2_18 : zFl RX2 18 2 5 := ⟨RX2, TX2, 8, rfl, by decide, (Or.inl (zg_in 173 (by decide +kernel) rfl)), in_X2⟩
theorem fl_X2_21 : zFl RX2 21 2 6 := ⟨RX2, TX2, 8, rfl, by decide, (Or.inl (zg_in 174 (by decide +kernel) rfl)), in_X2⟩
theorem fl_X2_160 : zFl RX2 160 2 7 := ⟨RX2, TX2, 8, rfl, by decide, (Or.inl (zg_in 175 (by decide +kernel) rfl)), in_X2⟩
theorem fp_X2_160 : zFp RX2 160 2 7 .long := ⟨RX2, TX2, 8, tyX2, rfl, by decide, (Or.inl (zg_in 175 (by decide +kernel) rfl)), in_X2, tyX2_ok, nmX2, rfl, by decide +kernel⟩
theorem fl_X8_243 : zFl RX8 243 2 7 := ⟨RX2, TX2, 8, rfl, by decide, (Or.inr ⟨_, zn_in (w := .fieldLinkNest RX8 243 "PigeonMail$Outlook" "seedBehind" "J" "PigeonMail") 176 (by decide +kernel) rfl⟩), in_X2⟩
theorem fp_X8_243 : zFp RX8 243 2 7 .long := ⟨RX2, TX2, 8, tyX2, rfl, by decide, (Or.inr ⟨_, zn_in (w := .fieldLinkNest RX8 243 "PigeonMail$Outlook" "seedBehind" "J" "PigeonMail") 176 (by decide +kernel) rfl⟩), in_X2, tyX2_ok, nmX2, rfl, by decide +kernel⟩
theorem fl_X6_13 : zFl RX6 13 6 0 := ⟨RX6, TX6, 2, rfl, by decide, (Or.inl (zg_in 209 (by decide +kernel) rfl)), in_X6⟩
theorem fl_X6_21 : zFl RX6 21 6 1 := ⟨RX6, TX6, 2, rfl, by decide, (Or.inl (zg_in 210 (by decide +kernel) rfl)), in_X6⟩
theorem fl_X3_14 : zFl RX3 14 3 0 := ⟨RX3, TX3, 3, rfl, by decide, (Or.inl (zg_in 216 (by decide +kernel) rfl)), in_X3⟩
theorem fl_X3_20 : zFl RX3 20 3 1 := ⟨RX3, TX3, 3, rfl, by decide, (Or.inl (zg_in 217 (by decide +kernel) rfl)), in_X3⟩
theorem fp_X3_20 : zFp RX3 20 3 1 .int := ⟨RX3, TX3, 3, tyX3, rfl, by decide, (Or.inl (zg_in 217 (by decide +kernel) rfl)), in_X3, tyX3_ok, nmX3, rfl, by decide +kernel⟩
theorem fl_X3_24 : zFl RX3 24 3 2 := ⟨RX3, TX3, 3, rfl, by decide, (Or.inl (zg_in 218 (by decide +kernel) rfl)), in_X3⟩
theorem fp_X3_24 : zFp RX3 24 3 2 .int := ⟨RX3, TX3, 3, tyX3, rfl, by decide, (Or.inl (zg_in 218 (by decide +kernel) rfl)), in_X3, tyX3_ok, nmX3, rfl, by decide +kernel⟩
theorem fl_X8_114 : zFl RX8 114 3 2 := ⟨RX3, TX3, 3, rfl, by decide, (Or.inr ⟨_, zn_in (w := .fieldLinkNest RX8 114 "PigeonMail$Past" "count" "I" "PigeonMail") 219 (by decide +kernel) rfl⟩), in_X3⟩
theorem fp_X8_114 : zFp RX8 114 3 2 .int := ⟨RX3, TX3, 3, tyX3, rfl, by decide, (Or.inr ⟨_, zn_in (w := .fieldLinkNest RX8 114 "PigeonMail$Past" "count" "I" "PigeonMail") 219 (by decide +kernel) rfl⟩), in_X3, tyX3_ok, nmX3, rfl, by decide +kernel⟩
theorem fl_X7_9 : zFl RX7 9 7 0 := ⟨RX7, TX7, 3, rfl, by decide, (Or.inl (zg_in 235 (by decide +kernel) rfl)), in_X7⟩
theorem fl_X7_15 : zFl RX7 15 7 1 := ⟨RX7, TX7, 3, rfl, by decide, (Or.inl (zg_in 236 (by decide +kernel) rfl)), in_X7⟩
theorem fl_X7_19 : zFl RX7 19 7 2 := ⟨RX7, TX7, 3, rfl, by decide, (Or.inl (zg_in 237 (by decide +kernel) rfl)), in_X7⟩
theorem fp_X7_19 : zFp RX7 19 7 2 .int := ⟨RX7, TX7, 3, tyX7, rfl, by decide, (Or.inl (zg_in 237 (by decide +kernel) rfl)), in_X7, tyX7_ok, nmX7, rfl, by decide +kernel⟩
theorem fl_X8_117 : zFl RX8 117 7 2 := ⟨RX7, TX7, 3, rfl, by decide, (Or.inr ⟨_, zn_in (w := .fieldLinkNest RX8 117 "PigeonMail$Told" "count" "I" "PigeonMail") 238 (by decide +kernel) rfl⟩), in_X7⟩
theorem fp_X8_117 : zFp RX8 117 7 2 .int := ⟨RX7, TX7, 3, tyX7, rfl, by decide, (Or.inr ⟨_, zn_in (w := .fieldLinkNest RX8 117 "PigeonMail$Told" "count" "I" "PigeonMail") 238 (by decide +kernel) rfl⟩), in_X7, tyX7_ok, nmX7, rfl, by decide +kernel⟩
theorem fl_X0_9 : zFl RX0 9 0 0 := ⟨RX0, TX0, 1, rfl, by decide, (Or.inl (zg_in 253 (by decide +kernel) rfl)), in_X0⟩
theorem fl_X8_10 : zFl RX8 10 8 0 := ⟨RX8, TX8, 10, rfl, by decide, (Or.inl (zg_in 257 (by decide +kernel) rfl)), in_X8⟩
theorem fl_X8_19 : zFl RX8 19 8 1 := ⟨RX8, TX8, 10, rfl, by decide, (Or.inl (zg_in 258 (by decide +kernel) rfl)), in_X8⟩
theorem fl_X8_28 : zFl RX8 28 8 2 := ⟨RX8, TX8, 10, rfl, by decide, (Or.inl (zg_in 259 (by decide +kernel) rfl)), in_X8⟩
theorem fl_X8_37 : zFl RX8 37 8 3 := ⟨RX8, TX8, 10, rfl, by decide, (Or.inl (zg_in 260 (by decide +kernel) rfl)), in_X8⟩
theorem fl_X8_44 : zFl RX8 44 8 4 := ⟨RX8, TX8, 10, rfl, by decide, (Or.inl (zg_in 261 (by decide +kernel) rfl)), in_X8⟩
theorem fl_X8_53 : zFl RX8 53 8 5 := ⟨RX8, TX8, 10, rfl, by decide, (Or.inl (zg_in 262 (by decide +kernel) rfl)), in_X8⟩
theorem fl_X8_57 : zFl RX8 57 8 6 := ⟨RX8, TX8, 10, rfl, by decide, (Or.inl (zg_in 263 (by decide +kernel) rfl)), in_X8⟩
theorem fl_X8_64 : zFl RX8 64 8 7 := ⟨RX8, TX8, 10, rfl, by decide, (Or.inl (zg_in 264 (by decide +kernel) rfl)), in_X8⟩
theorem fl_X8_71 : zFl RX8 71 8 8 := ⟨RX8, TX8, 10, rfl, by decide, (Or.inl (zg_in 265 (by decide +kernel) rfl)), in_X8⟩
theorem fl_X8_236 : zFl RX8 236 8 9 := ⟨RX8, TX8, 10, rfl, by decide, (Or.inl (zg_in 266 (by decide +kernel) rfl)), in_X8⟩
theorem fp_X8_236 : zFp RX8 236 8 9 .long := ⟨RX8, TX8, 10, tyX8, rfl, by decide, (Or.inl (zg_in 266 (by decide +kernel) rfl)), in_X8, tyX8_ok, nmX8, rfl, by decide +kernel⟩
theorem fl_X9_59 : zFl RX9 59 9 0 := ⟨RX9, TX9, 34, rfl, by decide, (Or.inl (zg_in 734 (by decide +kernel) rfl)), in_X9⟩
theorem fp_X9_59 : zFp RX9 59 9 0 .int := ⟨RX9, TX9, 34, tyX9, rfl, by decide, (Or.inl (zg_in 734 (by decide +kernel) rfl)), in_X9, tyX9_ok, nmX9, rfl, by decide +kernel⟩
theorem fl_X9_7 : zFl RX9 7 9 1 := ⟨RX9, TX9, 34, rfl, by decide, (Or.inl (zg_in 735 (by decide +kernel) rfl)), in_X9⟩
theorem fl_X9_75 : zFl RX9 75 9 2 := ⟨RX9, TX9, 34, rfl, by decide, (Or.inl (zg_in 736 (by decide +kernel) rfl)), in_X9⟩
theorem fp_X9_75 : zFp RX9 75 9 2 .int := ⟨RX9, TX9, 34, tyX9, rfl, by decide, (Or.inl (zg_in 736 (by decide +kernel) rfl)), in_X9, tyX9_ok, nmX9, rfl, by decide +kernel⟩
theorem fl_X9_78 : zFl RX9 78 9 3 := ⟨RX9, TX9, 34, rfl, by decide, (Or.inl (zg_in 737 (by decide +kernel) rfl)), in_X9⟩
theorem fp_X9_78 : zFp RX9 78 9 3 .int := ⟨RX9, TX9, 34, tyX9, rfl, by decide, (Or.inl (zg_in 737 (by decide +kernel) rfl)), in_X9, tyX9_ok, nmX9, rfl, by decide +kernel⟩
theorem fl_X9_63 : zFl RX9 63 9 4 := ⟨RX9, TX9, 34, rfl, by decide, (Or.inl (zg_in 738 (by decide +kernel) rfl)), in_X9⟩
theorem fp_X9_63 : zFp RX9 63 9 4 .int := ⟨RX9, TX9, 34, tyX9, rfl, by decide, (Or.inl (zg_in 738 (by decide +kernel) rfl)), in_X9, tyX9_ok, nmX9, rfl, by decide +kernel⟩
theorem fl_X9_13 : zFl RX9 13 9 5 := ⟨RX9, TX9, 34, rfl, by decide, (Or.inl (zg_in 739 (by decide +kernel) rfl)), in_X9⟩
theorem fl_X9_16 : zFl RX9 16 9 6 := ⟨RX9, TX9, 34, rfl, by decide, (Or.inl (zg_in 740 (by decide +kernel) rfl)), in_X9⟩
theorem fl_X9_70 : zFl RX9 70 9 7 := ⟨RX9, TX9, 34, rfl, by decide, (Or.inl (zg_in 741 (by decide +kernel) rfl)), in_X9⟩
theorem fp_X9_70 : zFp RX9 70 9 7 .int := ⟨RX9, TX9, 34, tyX9, rfl, by decide, (Or.inl (zg_in 741 (by decide +kernel) rfl)), in_X9, tyX9_ok, nmX9, rfl, by decide +kernel⟩
theorem fl_X9_19 : zFl RX9 19 9 8 := ⟨RX9, TX9, 34, rfl, by decide, (Or.inl (zg_in 742 (by decide +kernel) rfl)), in_X9⟩
theorem fl_X9_102 : zFl RX9 102 9 9 := ⟨RX9, TX9, 34, rfl, by decide, (Or.inl (zg_in 743 (by decide +kernel) rfl)), in_X9⟩
theorem fp_X9_102 : zFp RX9 102 9 9 .int := ⟨RX9, TX9, 34, tyX9, rfl, by decide, (Or.inl (zg_in 743 (by decide +kernel) rfl)), in_X9, tyX9_ok, nmX9, rfl, by decide +kernel⟩
theorem fl_X9_81 : zFl RX9 81 9 10 := ⟨RX9, TX9, 34, rfl, by decide, (Or.inl (zg_in 744 (by decide +kernel) rfl)), in_X9⟩
theorem fp_X9_81 : zFp RX9 81 9 10 .int := ⟨RX9, TX9, 34, tyX9, rfl, by decide, (Or.inl (zg_in 744 (by decide +kernel) rfl)), in_X9, tyX9_ok, nmX9, rfl, by decide +kernel⟩
theorem fl_X9_22 : zFl RX9 22 9 11 := ⟨RX9, TX9, 34, rfl, by decide, (Or.inl (zg_in 745 (by decide +kernel) rfl)), in_X9⟩
theorem fl_X9_92 : zFl RX9 92 9 12 := ⟨RX9, TX9, 34, rfl, by decide, (Or.inl (zg_in 746 (by decide +kernel) rfl)), in_X9⟩
theorem fp_X9_92 : zFp RX9 92 9 12 .int := ⟨RX9, TX9, 34, tyX9, rfl, by decide, (Or.inl (zg_in 746 (by decide +kernel) rfl)), in_X9, tyX9_ok, nmX9, rfl, by decide +kernel⟩
theorem fl_X9_25 : zFl RX9 25 9 13 := ⟨RX9, TX9, 34, rfl, by decide, (Or.inl (zg_in 747 (by decide +kernel) rfl)), in_X9⟩
theorem fl_X9_28 : zFl RX9 28 9 14 := ⟨RX9, TX9, 34, rfl, by decide, (Or.inl (zg_in 748 (by decide +kernel) rfl)), in_X9⟩
theorem fl_X9_31 : zFl RX9 31 9 15 := ⟨RX9, TX9, 34, rfl, by decide, (Or.inl (zg_in 749 (by decide +kernel) rfl)), in_X9⟩
theorem fl_X9_34 : zFl RX9 34 9 16 := ⟨RX9, TX9, 34, rfl, by decide, (Or.inl (zg_in 750 (by decide +kernel) rfl)), in_X9⟩
theorem fl_X9_112 : zFl RX9 112 9 17 := ⟨RX9, TX9, 34, rfl, by decide, (Or.inl (zg_in 751 (by decide +kernel) rfl)), in_X9⟩
theorem fp_X9_112 : zFp RX9 112 9 17 .int := ⟨RX9, TX9, 34, tyX9, rfl, by decide, (Or.inl (zg_in 751 (by decide +kernel) rfl)), in_X9, tyX9_ok, nmX9, rfl, by decide +kernel⟩
theorem fl_X9_37 : zFl RX9 37 9 18 := ⟨RX9, TX9, 34, rfl, by decide, (Or.inl (zg_in 752 (by decide +kernel) rfl)), in_X9⟩
theorem fl_X9_40 : zFl RX9 40 9 19 := ⟨RX9, TX9, 34, rfl, by decide, (Or.inl (zg_in 753 (by decide +kernel) rfl)), in_X9⟩
theorem fl_X9_161 : zFl RX9 161 9 20 := ⟨RX9, TX9, 34, rfl, by decide, (Or.inl (zg_in 754 (by decide +kernel) rfl)), in_X9⟩
theorem fp_X9_161 : zFp RX9 161 9 20 .int := ⟨RX9, TX9, 34, tyX9, rfl, by decide, (Or.inl (zg_in 754 (by decide +kernel) rfl)), in_X9, tyX9_ok, nmX9, rfl, by decide +kernel⟩
theorem fl_X9_44 : zFl RX9 44 9 21 := ⟨RX9, TX9, 34, rfl, by decide, (Or.inl (zg_in 755 (by decide +kernel) rfl)), in_X9⟩
theorem fl_X9_47 : zFl RX9 47 9 22 := ⟨RX9, TX9, 34, rfl, by decide, (Or.inl (zg_in 756 (by decide +kernel) rfl)), in_X9⟩
theorem fl_X9_258 : zFl RX9 258 9 23 := ⟨RX9, TX9, 34, rfl, by decide, (Or.inl (zg_in 757 (by decide +kernel) rfl)), in_X9⟩
theorem fp_X9_258 : zFp RX9 258 9 23 .long := ⟨RX9, TX9, 34, tyX9, rfl, by decide, (Or.inl (zg_in 757 (by decide +kernel) rfl)), in_X9, tyX9_ok, nmX9, rfl, by decide +kernel⟩
theorem fl_X9_141 : zFl RX9 141 9 24 := ⟨RX9, TX9, 34, rfl, by decide, (Or.inl (zg_in 758 (by decide +kernel) rfl)), in_X9⟩
theorem fp_X9_141 : zFp RX9 141 9 24 .int := ⟨RX9, TX9, 34, tyX9, rfl, by decide, (Or.inl (zg_in 758 (by decide +kernel) rfl)), in_X9, tyX9_ok, nmX9, rfl, by decide +kernel⟩
theorem fl_X9_50 : zFl RX9 50 9 25 := ⟨RX9, TX9, 34, rfl, by decide, (Or.inl (zg_in 759 (by decide +kernel) rfl)), in_X9⟩
theorem fl_X9_207 : zFl RX9 207 9 26 := ⟨RX9, TX9, 34, rfl, by decide, (Or.inl (zg_in 760 (by decide +kernel) rfl)), in_X9⟩
theorem fp_X9_207 : zFp RX9 207 9 26 .int := ⟨RX9, TX9, 34, tyX9, rfl, by decide, (Or.inl (zg_in 760 (by decide +kernel) rfl)), in_X9, tyX9_ok, nmX9, rfl, by decide +kernel⟩
theorem fl_X9_204 : zFl RX9 204 9 27 := ⟨RX9, TX9, 34, rfl, by decide, (Or.inl (zg_in 761 (by decide +kernel) rfl)), in_X9⟩
theorem fp_X9_204 : zFp RX9 204 9 27 .int := ⟨RX9, TX9, 34, tyX9, rfl, by decide, (Or.inl (zg_in 761 (by decide +kernel) rfl)), in_X9, tyX9_ok, nmX9, rfl, by decide +kernel⟩
theorem fl_X9_238 : zFl RX9 238 9 28 := ⟨RX9, TX9, 34, rfl, by decide, (Or.inl (zg_in 762 (by decide +kernel) rfl)), in_X9⟩
theorem fp_X9_238 : zFp RX9 238 9 28 .int := ⟨RX9, TX9, 34, tyX9, rfl, by decide, (Or.inl (zg_in 762 (by decide +kernel) rfl)), in_X9, tyX9_ok, nmX9, rfl, by decide +kernel⟩
theorem fl_X9_241 : zFl RX9 241 9 29 := ⟨RX9, TX9, 34, rfl, by decide, (Or.inl (zg_in 763 (by decide +kernel) rfl)), in_X9⟩
theorem fp_X9_241 : zFp RX9 241 9 29 .int := ⟨RX9, TX9, 34, tyX9, rfl, by decide, (Or.inl (zg_in 763 (by decide +kernel) rfl)), in_X9, tyX9_ok, nmX9, rfl, by decide +kernel⟩
theorem fl_X9_248 : zFl RX9 248 9 30 := ⟨RX9, TX9, 34, rfl, by decide, (Or.inl (zg_in 764 (by decide +kernel) rfl)), in_X9⟩
theorem fp_X9_248 : zFp RX9 248 9 30 .int := ⟨RX9, TX9, 34, tyX9, rfl, by decide, (Or.inl (zg_in 764 (by decide +kernel) rfl)), in_X9, tyX9_ok, nmX9, rfl, by decide +kernel⟩
theorem fl_X9_251 : zFl RX9 251 9 31 := ⟨RX9, TX9, 34, rfl, by decide, (Or.inl (zg_in 765 (by decide +kernel) rfl)), in_X9⟩
theorem fp_X9_251 : zFp RX9 251 9 31 .int := ⟨RX9, TX9, 34, tyX9, rfl, by decide, (Or.inl (zg_in 765 (by decide +kernel) rfl)), in_X9, tyX9_ok, nmX9, rfl, by decide +kernel⟩
theorem fl_X9_53 : zFl RX9 53 9 32 := ⟨RX9, TX9, 34, rfl, by decide, (Or.inl (zg_in 766 (by decide +kernel) rfl)), in_X9⟩
theorem fl_X9_56 : zFl RX9 56 9 33 := ⟨RX9, TX9, 34, rfl, by decide, (Or.inl (zg_in 767 (by decide +kernel) rfl)), in_X9⟩
theorem cd_X8_init : zCd yX8_init cX8_init 1 none 0 := ⟨(zg_in 60 (by decide +kernel) rfl), (zg_in 43 (by decide +kernel) rfl), ⟨by decide +kernel, by decide +kernel, by decide +kernel⟩, by decide⟩
theorem cd_X5_init : zCd yX5_init cX5_init 1 none 0 := ⟨(zg_in 68 (by decide +kernel) rfl), (zg_in 44 (by decide +kernel) rfl), ⟨by decide +kernel, by decide +kernel, by decide +kernel⟩, by decide⟩
theorem cd_X4_init : zCd yX4_init cX4_init 1 none 0 := ⟨(zg_in 74 (by decide +kernel) rfl), (zg_in 45 (by decide +kernel) rfl), ⟨by decide +kernel, by decide +kernel, by decide +kernel⟩, by decide⟩
theorem cd_X1_init : zCd yX1_init cX1_init 2 none 1 := ⟨(zg_in 146 (by decide +kernel) rfl), (zg_in 46 (by decide +kernel) rfl), ⟨by decide +kernel, by decide +kernel, by decide +kernel⟩, by decide⟩
theorem cd_X2_init : zCd yX2_init cX2_init 3 none 2 := ⟨(zg_in 164 (by decide +kernel) rfl), (zg_in 47 (by decide +kernel) rfl), ⟨by decide +kernel, by decide +kernel, by decide +kernel⟩, by decide⟩
theorem cd_X3_init : zCd yX3_init cX3_init 1 none 0 := ⟨(zg_in 198 (by decide +kernel) rfl), (zg_in 48 (by decide +kernel) rfl), ⟨by decide +kernel, by decide +kernel, by decide +kernel⟩, by decide⟩
theorem cd_X6_init : zCd yX6_init cX6_init 2 none 1 := ⟨(zg_in 204 (by decide +kernel) rfl), (zg_in 49 (by decide +kernel) rfl), ⟨by decide +kernel, by decide +kernel, by decide +kernel⟩, by decide⟩
theorem cd_X7_init : zCd yX7_init cX7_init 1 none 0 := ⟨(zg_in 233 (by decide +kernel) rfl), (zg_in 51 (by decide +kernel) rfl), ⟨by decide +kernel, by decide +kernel, by decide +kernel⟩, by decide⟩
theorem cd_X0_init : zCd yX0_init cX0_init 1 none 0 := ⟨(zg_in 251 (by decide +kernel) rfl), (zg_in 52 (by decide +kernel) rfl), ⟨by decide +kernel, by decide +kernel, by decide +kernel⟩, by decide⟩
theorem cd_X8_write : zCd yX8_write cX8_write 2 (some .int) 1 := ⟨(zg_in 291 (by decide +kernel) rfl), (zg_in 43 (by decide +kernel) rfl), ⟨by decide +kernel, by decide +kernel, by decide +kernel⟩, by decide⟩
theorem cd_X5_add : zCd yX5_add cX5_add 2 (some .int) 1 := ⟨(zg_in 295 (by decide +kernel) rfl), (zg_in 44 (by decide +kernel) rfl), ⟨by decide +kernel, by decide +kernel, by decide +kernel⟩, by decide⟩
theorem cd_X8_wipe : zCd yX8_wipe cX8_wipe 1 (some .int) 0 := ⟨(zg_in 299 (by decide +kernel) rfl), (zg_in 43 (by decide +kernel) rfl), ⟨by decide +kernel, by decide +kernel, by decide +kernel⟩, by decide⟩
theorem cd_X5_clear : zCd yX5_clear cX5_clear 2 (some .int) 0 := ⟨(zg_in 303 (by decide +kernel) rfl), (zg_in 44 (by decide +kernel) rfl), ⟨by decide +kernel, by decide +kernel, by decide +kernel⟩, by decide⟩
theorem cd_X8_fault : zCd yX8_fault cX8_fault 1 (some .int) 0 := ⟨(zg_in 307 (by decide +kernel) rfl), (zg_in 43 (by decide +kernel) rfl), ⟨by decide +kernel, by decide +kernel, by decide +kernel⟩, by decide⟩
theorem cd_X5_firstFault : zCd yX5_firstFault cX5_firstFault 1 (some .int) 0 := ⟨(zg_in 311 (by decide +kernel) rfl), (zg_in 44 (by decide +kernel) rfl), ⟨by decide +kernel, by decide +kernel, by decide +kernel⟩, by decide⟩
theorem cd_X5_readInto : zCd yX5_readInto cX5_readInto 4 (some .int) 1 := ⟨(zg_in 315 (by decide +kernel) rfl), (zg_in 44 (by decide +kernel) rfl), ⟨by decide +kernel, by decide +kernel, by decide +kernel⟩, by decide⟩
theorem cd_X4_clear : zCd yX4_clear cX4_clear 1 none 0 := ⟨(zg_in 319 (by decide +kernel) rfl), (zg_in 45 (by decide +kernel) rfl), ⟨by decide +kernel, by decide +kernel, by decide +kernel⟩, by decide⟩
theorem cd_X5_readOutside : zCd yX5_readOutside cX5_readOutside 3 (some .int) 3 := ⟨(zg_in 322 (by decide +kernel) rfl), (zg_in 44 (by decide +kernel) rfl), ⟨by decide +kernel, by decide +kernel, by decide +kernel⟩, by decide⟩
theorem cd_X5_isFigure : zCd yX5_isFigure cX5_isFigure 3 (some .boolean) 3 := ⟨(zg_in 325 (by decide +kernel) rfl), (zg_in 44 (by decide +kernel) rfl), ⟨by decide +kernel, by decide +kernel, by decide +kernel⟩, by decide⟩
theorem cd_X5_readInside : zCd yX5_readInside cX5_readInside 5 (some .int) 3 := ⟨(zg_in 328 (by decide +kernel) rfl), (zg_in 44 (by decide +kernel) rfl), ⟨by decide +kernel, by decide +kernel, by decide +kernel⟩, by decide⟩
theorem cd_X8_isHole : zCd yX8_isHole cX8_isHole 1 (some .boolean) 1 := ⟨(zg_in 331 (by decide +kernel) rfl), (zg_in 43 (by decide +kernel) rfl), ⟨by decide +kernel, by decide +kernel, by decide +kernel⟩, by decide⟩
theorem cd_X4_homesIn : zCd yX4_homesIn cX4_homesIn 4 (some .int) 1 := ⟨(zg_in 335 (by decide +kernel) rfl), (zg_in 45 (by decide +kernel) rfl), ⟨by decide +kernel, by decide +kernel, by decide +kernel⟩, by decide⟩
theorem cd_X8_waitAlone : zCd yX8_waitAlone cX8_waitAlone 2 (some .int) 2 := ⟨(zg_in 338 (by decide +kernel) rfl), (zg_in 43 (by decide +kernel) rfl), ⟨by decide +kernel, by decide +kernel, by decide +kernel⟩, by decide⟩
theorem cd_X8_room : zCd yX8_room cX8_room 2 (some .int) 0 := ⟨(zg_in 343 (by decide +kernel) rfl), (zg_in 43 (by decide +kernel) rfl), ⟨by decide +kernel, by decide +kernel, by decide +kernel⟩, by decide⟩
theorem cd_X1_begin : zCd yX1_begin cX1_begin 2 none 0 := ⟨(zg_in 348 (by decide +kernel) rfl), (zg_in 46 (by decide +kernel) rfl), ⟨by decide +kernel, by decide +kernel, by decide +kernel⟩, by decide⟩
theorem cd_X3_clear : zCd yX3_clear cX3_clear 1 none 0 := ⟨(zg_in 352 (by decide +kernel) rfl), (zg_in 48 (by decide +kernel) rfl), ⟨by decide +kernel, by decide +kernel, by decide +kernel⟩, by decide⟩
theorem cd_X8_about : zCd yX8_about cX8_about 2 (some .int) 1 := ⟨(zg_in 356 (by decide +kernel) rfl), (zg_in 43 (by decide +kernel) rfl), ⟨by decide +kernel, by decide +kernel, by decide +kernel⟩, by decide⟩
theorem cd_X1_theDay : zCd yX1_theDay cX1_theDay 1 (some .int) 0 := ⟨(zg_in 360 (by decide +kernel) rfl), (zg_in 46 (by decide +kernel) rfl), ⟨by decide +kernel, by decide +kernel, by decide +kernel⟩, by decide⟩
theorem cd_X1_grain : zCd yX1_grain cX1_grain 1 (some .int) 0 := ⟨(zg_in 364 (by decide +kernel) rfl), (zg_in 46 (by decide +kernel) rfl), ⟨by decide +kernel, by decide +kernel, by decide +kernel⟩, by decide⟩
theorem cd_X1_who : zCd yX1_who cX1_who 4 (some .int) 1 := ⟨(zg_in 368 (by decide +kernel) rfl), (zg_in 46 (by decide +kernel) rfl), ⟨by decide +kernel, by decide +kernel, by decide +kernel⟩, by decide⟩
theorem cd_X1_pairs : zCd yX1_pairs cX1_pairs 4 (some .int) 0 := ⟨(zg_in 372 (by decide +kernel) rfl), (zg_in 46 (by decide +kernel) rfl), ⟨by decide +kernel, by decide +kernel, by decide +kernel⟩, by decide⟩
theorem cd_X1_whoIsIn : zCd yX1_whoIsIn cX1_whoIsIn 5 (some .int) 1 := ⟨(zg_in 377 (by decide +kernel) rfl), (zg_in 46 (by decide +kernel) rfl), ⟨by decide +kernel, by decide +kernel, by decide +kernel⟩, by decide⟩
theorem cd_J6_bitCount_0f7a4 : zCd yJ6_bitCount_0f7a4 cJ6_bitCount_0f7a4 1 (some .int) 1 := ⟨(zg_in 380 (by decide +kernel) rfl), (zg_in 54 (by decide +kernel) rfl), ⟨by decide +kernel, by decide +kernel, by decide +kernel⟩, by decide⟩
theorem cd_X8_letter : zCd yX8_letter cX8_letter 3 (some .int) 2 := ⟨(zg_in 387 (by decide +kernel) rfl), (zg_in 43 (by decide +kernel) rfl), ⟨by decide +kernel, by decide +kernel, by decide +kernel⟩, by decide⟩
theorem cd_X4_hasLetter : zCd yX4_hasLetter cX4_hasLetter 2 (some .boolean) 1 := ⟨(zg_in 391 (by decide +kernel) rfl), (zg_in 45 (by decide +kernel) rfl), ⟨by decide +kernel, by decide +kernel, by decide +kernel⟩, by decide⟩
theorem cd_X1_holeOf : zCd yX1_holeOf cX1_holeOf 2 (some .int) 1 := ⟨(zg_in 395 (by decide +kernel) rfl), (zg_in 46 (by decide +kernel) rfl), ⟨by decide +kernel, by decide +kernel, by decide +kernel⟩, by decide⟩
theorem cd_X1_fateOf : zCd yX1_fateOf cX1_fateOf 2 (some .int) 1 := ⟨(zg_in 399 (by decide +kernel) rfl), (zg_in 46 (by decide +kernel) rfl), ⟨by decide +kernel, by decide +kernel, by decide +kernel⟩, by decide⟩
theorem cd_X1_waitedOf : zCd yX1_waitedOf cX1_waitedOf 2 (some .int) 1 := ⟨(zg_in 403 (by decide +kernel) rfl), (zg_in 46 (by decide +kernel) rfl), ⟨by decide +kernel, by decide +kernel, by decide +kernel⟩, by decide⟩
theorem cd_X1_daysLeft : zCd yX1_daysLeft cX1_daysLeft 5 (some .int) 1 := ⟨(zg_in 407 (by decide +kernel) rfl), (zg_in 46 (by decide +kernel) rfl), ⟨by decide +kernel, by decide +kernel, by decide +kernel⟩, by decide⟩
theorem cd_X8_clerk : zCd yX8_clerk cX8_clerk 3 (some .int) 2 := ⟨(zg_in 411 (by decide +kernel) rfl), (zg_in 43 (by decide +kernel) rfl), ⟨by decide +kernel, by decide +kernel, by decide +kernel⟩, by decide⟩
theorem cd_X4_hasClerk : zCd yX4_hasClerk cX4_hasClerk 2 (some .boolean) 1 := ⟨(zg_in 415 (by decide +kernel) rfl), (zg_in 45 (by decide +kernel) rfl), ⟨by decide +kernel, by decide +kernel, by decide +kernel⟩, by decide⟩
theorem cd_X1_rowOf : zCd yX1_rowOf cX1_rowOf 2 (some .int) 1 := ⟨(zg_in 419 (by decide +kernel) rfl), (zg_in 46 (by decide +kernel) rfl), ⟨by decide +kernel, by decide +kernel, by decide +kernel⟩, by decide⟩
theorem cd_X8_hole : zCd yX8_hole cX8_hole 2 (some .int) 1 := ⟨(zg_in 423 (by decide +kernel) rfl), (zg_in 43 (by decide +kernel) rfl), ⟨by decide +kernel, by decide +kernel, by decide +kernel⟩, by decide⟩
theorem cd_X8_day : zCd yX8_day cX8_day 1 (some .int) 0 := ⟨(zg_in 429 (by decide +kernel) rfl), (zg_in 43 (by decide +kernel) rfl), ⟨by decide +kernel, by decide +kernel, by decide +kernel⟩, by decide⟩
theorem cd_X3_remember : zCd yX3_remember cX3_remember 2 none 1 := ⟨(zg_in 433 (by decide +kernel) rfl), (zg_in 48 (by decide +kernel) rfl), ⟨by decide +kernel, by decide +kernel, by decide +kernel⟩, by decide⟩
theorem cd_X6_store : zCd yX6_store cX6_store 3 none 2 := ⟨(zg_in 437 (by decide +kernel) rfl), (zg_in 49 (by decide +kernel) rfl), ⟨by decide +kernel, by decide +kernel, by decide +kernel⟩, by decide⟩
theorem cd_X1_passDay : zCd yX1_passDay cX1_passDay 3 (some .int) 0 := ⟨(zg_in 444 (by decide +kernel) rfl), (zg_in 46 (by decide +kernel) rfl), ⟨by decide +kernel, by decide +kernel, by decide +kernel⟩, by decide⟩
theorem cd_X1_clerkAnswers : zCd yX1_clerkAnswers cX1_clerkAnswers 4 none 1 := ⟨(zg_in 448 (by decide +kernel) rfl), (zg_in 46 (by decide +kernel) rfl), ⟨by decide +kernel, by decide +kernel, by decide +kernel⟩, by decide⟩
theorem cd_X1_mostPressing : zCd yX1_mostPressing cX1_mostPressing 6 (some .int) 1 := ⟨(zg_in 452 (by decide +kernel) rfl), (zg_in 46 (by decide +kernel) rfl), ⟨by decide +kernel, by decide +kernel, by decide +kernel⟩, by decide⟩
theorem cd_X1_hatch : zCd yX1_hatch cX1_hatch 4 none 1 := ⟨(zg_in 457 (by decide +kernel) rfl), (zg_in 46 (by decide +kernel) rfl), ⟨by decide +kernel, by decide +kernel, by decide +kernel⟩, by decide⟩
theorem cd_X1_birdsEat : zCd yX1_birdsEat cX1_birdsEat 2 none 0 := ⟨(zg_in 461 (by decide +kernel) rfl), (zg_in 46 (by decide +kernel) rfl), ⟨by decide +kernel, by decide +kernel, by decide +kernel⟩, by decide⟩
theorem cd_X8_put : zCd yX8_put cX8_put 4 (some .int) 2 := ⟨(zg_in 465 (by decide +kernel) rfl), (zg_in 43 (by decide +kernel) rfl), ⟨by decide +kernel, by decide +kernel, by decide +kernel⟩, by decide⟩
theorem cd_X1_canPut : zCd yX1_canPut cX1_canPut 3 (some .boolean) 2 := ⟨(zg_in 469 (by decide +kernel) rfl), (zg_in 46 (by decide +kernel) rfl), ⟨by decide +kernel, by decide +kernel, by decide +kernel⟩, by decide⟩
theorem cd_X1_moveTo : zCd yX1_moveTo cX1_moveTo 3 none 2 := ⟨(zg_in 475 (by decide +kernel) rfl), (zg_in 46 (by decide +kernel) rfl), ⟨by decide +kernel, by decide +kernel, by decide +kernel⟩, by decide⟩
theorem cd_X8_feed : zCd yX8_feed cX8_feed 2 (some .int) 1 := ⟨(zg_in 479 (by decide +kernel) rfl), (zg_in 43 (by decide +kernel) rfl), ⟨by decide +kernel, by decide +kernel, by decide +kernel⟩, by decide⟩
theorem cd_X1_addGrain : zCd yX1_addGrain cX1_addGrain 2 none 1 := ⟨(zg_in 483 (by decide +kernel) rfl), (zg_in 46 (by decide +kernel) rfl), ⟨by decide +kernel, by decide +kernel, by decide +kernel⟩, by decide⟩
theorem cd_X8_send : zCd yX8_send cX8_send 4 (some .int) 2 := ⟨(zg_in 490 (by decide +kernel) rfl), (zg_in 43 (by decide +kernel) rfl), ⟨by decide +kernel, by decide +kernel, by decide +kernel⟩, by decide⟩
theorem cd_X8_isRow : zCd yX8_isRow cX8_isRow 1 (some .boolean) 1 := ⟨(zg_in 493 (by decide +kernel) rfl), (zg_in 43 (by decide +kernel) rfl), ⟨by decide +kernel, by decide +kernel, by decide +kernel⟩, by decide⟩
theorem cd_X1_canSend : zCd yX1_canSend cX1_canSend 3 (some .boolean) 2 := ⟨(zg_in 497 (by decide +kernel) rfl), (zg_in 46 (by decide +kernel) rfl), ⟨by decide +kernel, by decide +kernel, by decide +kernel⟩, by decide⟩
theorem cd_X1_sendTo : zCd yX1_sendTo cX1_sendTo 3 none 2 := ⟨(zg_in 503 (by decide +kernel) rfl), (zg_in 46 (by decide +kernel) rfl), ⟨by decide +kernel, by decide +kernel, by decide +kernel⟩, by decide⟩
theorem cd_X8_undo : zCd yX8_undo cX8_undo 1 (some .int) 0 := ⟨(zg_in 507 (by decide +kernel) rfl), (zg_in 43 (by decide +kernel) rfl), ⟨by decide +kernel, by decide +kernel, by decide +kernel⟩, by decide⟩
theorem cd_X3_goBack : zCd yX3_goBack cX3_goBack 2 none 1 := ⟨(zg_in 511 (by decide +kernel) rfl), (zg_in 48 (by decide +kernel) rfl), ⟨by decide +kernel, by decide +kernel, by decide +kernel⟩, by decide⟩
theorem cd_X6_fetch : zCd yX6_fetch cX6_fetch 3 none 2 := ⟨(zg_in 515 (by decide +kernel) rfl), (zg_in 49 (by decide +kernel) rfl), ⟨by decide +kernel, by decide +kernel, by decide +kernel⟩, by decide⟩
theorem cd_X8_ahead : zCd yX8_ahead cX8_ahead 3 (some .int) 2 := ⟨(zg_in 519 (by decide +kernel) rfl), (zg_in 43 (by decide +kernel) rfl), ⟨by decide +kernel, by decide +kernel, by decide +kernel⟩, by decide⟩
theorem cd_X2_whoIn : zCd yX2_whoIn cX2_whoIn 4 (some .int) 2 := ⟨(zg_in 523 (by decide +kernel) rfl), (zg_in 47 (by decide +kernel) rfl), ⟨by decide +kernel, by decide +kernel, by decide +kernel⟩, by decide⟩
theorem cd_X1_beLike : zCd yX1_beLike cX1_beLike 3 none 1 := ⟨(zg_in 527 (by decide +kernel) rfl), (zg_in 46 (by decide +kernel) rfl), ⟨by decide +kernel, by decide +kernel, by decide +kernel⟩, by decide⟩
theorem cd_X8_hatches : zCd yX8_hatches cX8_hatches 3 (some .int) 1 := ⟨(zg_in 534 (by decide +kernel) rfl), (zg_in 43 (by decide +kernel) rfl), ⟨by decide +kernel, by decide +kernel, by decide +kernel⟩, by decide⟩
theorem cd_X2_daysToHatch : zCd yX2_daysToHatch cX2_daysToHatch 5 (some .int) 2 := ⟨(zg_in 538 (by decide +kernel) rfl), (zg_in 47 (by decide +kernel) rfl), ⟨by decide +kernel, by decide +kernel, by decide +kernel⟩, by decide⟩
theorem cd_X8_rows : zCd yX8_rows cX8_rows 2 (some .int) 1 := ⟨(zg_in 544 (by decide +kernel) rfl), (zg_in 43 (by decide +kernel) rfl), ⟨by decide +kernel, by decide +kernel, by decide +kernel⟩, by decide⟩
theorem cd_X2_bestRows : zCd yX2_bestRows cX2_bestRows 8 (some .int) 1 := ⟨(zg_in 548 (by decide +kernel) rfl), (zg_in 47 (by decide +kernel) rfl), ⟨by decide +kernel, by decide +kernel, by decide +kernel⟩, by decide⟩
theorem cd_X2_sendAll : zCd yX2_sendAll cX2_sendAll 6 (some .int) 1 := ⟨(zg_in 552 (by decide +kernel) rfl), (zg_in 47 (by decide +kernel) rfl), ⟨by decide +kernel, by decide +kernel, by decide +kernel⟩, by decide⟩
theorem cd_X1_lost : zCd yX1_lost cX1_lost 1 (some .int) 0 := ⟨(zg_in 557 (by decide +kernel) rfl), (zg_in 46 (by decide +kernel) rfl), ⟨by decide +kernel, by decide +kernel, by decide +kernel⟩, by decide⟩
theorem cd_X8_saved : zCd yX8_saved cX8_saved 2 (some .int) 1 := ⟨(zg_in 561 (by decide +kernel) rfl), (zg_in 43 (by decide +kernel) rfl), ⟨by decide +kernel, by decide +kernel, by decide +kernel⟩, by decide⟩
theorem cd_X2_safestHole : zCd yX2_safestHole cX2_safestHole 6 (some .int) 1 := ⟨(zg_in 565 (by decide +kernel) rfl), (zg_in 47 (by decide +kernel) rfl), ⟨by decide +kernel, by decide +kernel, by decide +kernel⟩, by decide⟩
theorem cd_X8_quiet : zCd yX8_quiet cX8_quiet 1 (some .int) 0 := ⟨(zg_in 572 (by decide +kernel) rfl), (zg_in 43 (by decide +kernel) rfl), ⟨by decide +kernel, by decide +kernel, by decide +kernel⟩, by decide⟩
theorem cd_X2_fewestForQuiet : zCd yX2_fewestForQuiet cX2_fewestForQuiet 4 (some .int) 0 := ⟨(zg_in 576 (by decide +kernel) rfl), (zg_in 47 (by decide +kernel) rfl), ⟨by decide +kernel, by decide +kernel, by decide +kernel⟩, by decide⟩
theorem cd_X2_isQuiet : zCd yX2_isQuiet cX2_isQuiet 3 (some .boolean) 1 := ⟨(zg_in 581 (by decide +kernel) rfl), (zg_in 47 (by decide +kernel) rfl), ⟨by decide +kernel, by decide +kernel, by decide +kernel⟩, by decide⟩
theorem cd_X1_answer : zCd yX1_answer cX1_answer 2 none 1 := ⟨(zg_in 585 (by decide +kernel) rfl), (zg_in 46 (by decide +kernel) rfl), ⟨by decide +kernel, by decide +kernel, by decide +kernel⟩, by decide⟩
theorem cd_X8_judge : zCd yX8_judge cX8_judge 4 (some .int) 2 := ⟨(zg_in 589 (by decide +kernel) rfl), (zg_in 43 (by decide +kernel) rfl), ⟨by decide +kernel, by decide +kernel, by decide +kernel⟩, by decide⟩
theorem cd_X2_firstThatCanNotBe : zCd yX2_firstThatCanNotBe cX2_firstThatCanNotBe 8 (some .int) 2 := ⟨(zg_in 593 (by decide +kernel) rfl), (zg_in 47 (by decide +kernel) rfl), ⟨by decide +kernel, by decide +kernel, by decide +kernel⟩, by decide⟩
theorem cd_X2_doIfCan : zCd yX2_doIfCan cX2_doIfCan 5 (some .boolean) 1 := ⟨(zg_in 599 (by decide +kernel) rfl), (zg_in 47 (by decide +kernel) rfl), ⟨by decide +kernel, by decide +kernel, by decide +kernel⟩, by decide⟩
theorem cd_X2_putIfCan : zCd yX2_putIfCan cX2_putIfCan 4 (some .boolean) 2 := ⟨(zg_in 603 (by decide +kernel) rfl), (zg_in 47 (by decide +kernel) rfl), ⟨by decide +kernel, by decide +kernel, by decide +kernel⟩, by decide⟩
theorem cd_X2_sendIfCan : zCd yX2_sendIfCan cX2_sendIfCan 4 (some .boolean) 2 := ⟨(zg_in 608 (by decide +kernel) rfl), (zg_in 47 (by decide +kernel) rfl), ⟨by decide +kernel, by decide +kernel, by decide +kernel⟩, by decide⟩
theorem cd_X8_share : zCd yX8_share cX8_share 3 (some .int) 2 := ⟨(zg_in 614 (by decide +kernel) rfl), (zg_in 43 (by decide +kernel) rfl), ⟨by decide +kernel, by decide +kernel, by decide +kernel⟩, by decide⟩
theorem cd_X2_shareOf : zCd yX2_shareOf cX2_shareOf 8 (some .int) 2 := ⟨(zg_in 618 (by decide +kernel) rfl), (zg_in 47 (by decide +kernel) rfl), ⟨by decide +kernel, by decide +kernel, by decide +kernel⟩, by decide⟩
theorem cd_X2_fillLostWith : zCd yX2_fillLostWith cX2_fillLostWith 3 none 0 := ⟨(zg_in 622 (by decide +kernel) rfl), (zg_in 47 (by decide +kernel) rfl), ⟨by decide +kernel, by decide +kernel, by decide +kernel⟩, by decide⟩
theorem cd_X2_factorial : zCd yX2_factorial cX2_factorial 3 (some .int) 1 := ⟨(zg_in 625 (by decide +kernel) rfl), (zg_in 47 (by decide +kernel) rfl), ⟨by decide +kernel, by decide +kernel, by decide +kernel⟩, by decide⟩
theorem cd_X8_part : zCd yX8_part cX8_part 7 (some .int) 3 := ⟨(zg_in 629 (by decide +kernel) rfl), (zg_in 43 (by decide +kernel) rfl), ⟨by decide +kernel, by decide +kernel, by decide +kernel⟩, by decide⟩
theorem cd_X8_tell : zCd yX8_tell cX8_tell 3 (some .int) 2 := ⟨(zg_in 636 (by decide +kernel) rfl), (zg_in 43 (by decide +kernel) rfl), ⟨by decide +kernel, by decide +kernel, by decide +kernel⟩, by decide⟩
theorem cd_X7_add : zCd yX7_add cX7_add 3 (some .int) 2 := ⟨(zg_in 640 (by decide +kernel) rfl), (zg_in 51 (by decide +kernel) rfl), ⟨by decide +kernel, by decide +kernel, by decide +kernel⟩, by decide⟩
theorem cd_X8_untell : zCd yX8_untell cX8_untell 1 (some .int) 0 := ⟨(zg_in 644 (by decide +kernel) rfl), (zg_in 43 (by decide +kernel) rfl), ⟨by decide +kernel, by decide +kernel, by decide +kernel⟩, by decide⟩
theorem cd_X7_clear : zCd yX7_clear cX7_clear 2 (some .int) 0 := ⟨(zg_in 648 (by decide +kernel) rfl), (zg_in 51 (by decide +kernel) rfl), ⟨by decide +kernel, by decide +kernel, by decide +kernel⟩, by decide⟩
theorem cd_X8_may : zCd yX8_may cX8_may 2 (some .int) 1 := ⟨(zg_in 652 (by decide +kernel) rfl), (zg_in 43 (by decide +kernel) rfl), ⟨by decide +kernel, by decide +kernel, by decide +kernel⟩, by decide⟩
theorem cd_X7_howMany : zCd yX7_howMany cX7_howMany 4 (some .int) 0 := ⟨(zg_in 656 (by decide +kernel) rfl), (zg_in 51 (by decide +kernel) rfl), ⟨by decide +kernel, by decide +kernel, by decide +kernel⟩, by decide⟩
theorem cd_X7_fits : zCd yX7_fits cX7_fits 3 (some .boolean) 1 := ⟨(zg_in 661 (by decide +kernel) rfl), (zg_in 51 (by decide +kernel) rfl), ⟨by decide +kernel, by decide +kernel, by decide +kernel⟩, by decide⟩
theorem cd_X7_first : zCd yX7_first cX7_first 3 (some .int) 0 := ⟨(zg_in 665 (by decide +kernel) rfl), (zg_in 51 (by decide +kernel) rfl), ⟨by decide +kernel, by decide +kernel, by decide +kernel⟩, by decide⟩
theorem cd_X8_rests : zCd yX8_rests cX8_rests 4 (some .int) 3 := ⟨(zg_in 669 (by decide +kernel) rfl), (zg_in 43 (by decide +kernel) rfl), ⟨by decide +kernel, by decide +kernel, by decide +kernel⟩, by decide⟩
theorem cd_X2_restsOf : zCd yX2_restsOf cX2_restsOf 8 (some .int) 3 := ⟨(zg_in 673 (by decide +kernel) rfl), (zg_in 47 (by decide +kernel) rfl), ⟨by decide +kernel, by decide +kernel, by decide +kernel⟩, by decide⟩
theorem cd_X2_fillGains : zCd yX2_fillGains cX2_fillGains 6 none 2 := ⟨(zg_in 677 (by decide +kernel) rfl), (zg_in 47 (by decide +kernel) rfl), ⟨by decide +kernel, by decide +kernel, by decide +kernel⟩, by decide⟩
theorem cd_X2_isRest : zCd yX2_isRest cX2_isRest 5 (some .boolean) 2 := ⟨(zg_in 682 (by decide +kernel) rfl), (zg_in 47 (by decide +kernel) rfl), ⟨by decide +kernel, by decide +kernel, by decide +kernel⟩, by decide⟩
theorem cd_X8_hawks : zCd yX8_hawks cX8_hawks 4 (some .int) 3 := ⟨(zg_in 686 (by decide +kernel) rfl), (zg_in 43 (by decide +kernel) rfl), ⟨by decide +kernel, by decide +kernel, by decide +kernel⟩, by decide⟩
theorem cd_X0_left : zCd yX0_left cX0_left 8 (some .int) 4 := ⟨(zg_in 691 (by decide +kernel) rfl), (zg_in 52 (by decide +kernel) rfl), ⟨by decide +kernel, by decide +kernel, by decide +kernel⟩, by decide⟩
theorem cd_X0_fill : zCd yX0_fill cX0_fill 6 (some .int) 2 := ⟨(zg_in 696 (by decide +kernel) rfl), (zg_in 52 (by decide +kernel) rfl), ⟨by decide +kernel, by decide +kernel, by decide +kernel⟩, by decide⟩
theorem cd_X8_seed : zCd yX8_seed cX8_seed 5 (some .long) 1 := ⟨(zg_in 702 (by decide +kernel) rfl), (zg_in 43 (by decide +kernel) rfl), ⟨by decide +kernel, by decide +kernel, by decide +kernel⟩, by decide⟩
theorem cd_X8_years : zCd yX8_years cX8_years 3 (some .int) 1 := ⟨(zg_in 706 (by decide +kernel) rfl), (zg_in 43 (by decide +kernel) rfl), ⟨by decide +kernel, by decide +kernel, by decide +kernel⟩, by decide⟩
theorem cd_X2_birdsOfYears : zCd yX2_birdsOfYears cX2_birdsOfYears 8 (some .int) 2 := ⟨(zg_in 710 (by decide +kernel) rfl), (zg_in 47 (by decide +kernel) rfl), ⟨by decide +kernel, by decide +kernel, by decide +kernel⟩, by decide⟩
theorem cd_X2_happen : zCd yX2_happen cX2_happen 2 none 1 := ⟨(zg_in 717 (by decide +kernel) rfl), (zg_in 47 (by decide +kernel) rfl), ⟨by decide +kernel, by decide +kernel, by decide +kernel⟩, by decide⟩
theorem cd_X8_keep : zCd yX8_keep cX8_keep 2 (some .int) 1 := ⟨(zg_in 721 (by decide +kernel) rfl), (zg_in 43 (by decide +kernel) rfl), ⟨by decide +kernel, by decide +kernel, by decide +kernel⟩, by decide⟩
theorem cd_X8_again : zCd yX8_again cX8_again 2 (some .int) 1 := ⟨(zg_in 726 (by decide +kernel) rfl), (zg_in 43 (by decide +kernel) rfl), ⟨by decide +kernel, by decide +kernel, by decide +kernel⟩, by decide⟩
theorem cd_X9_init : zCd yX9_init cX9_init 1 none 0 := ⟨(zg_in 732 (by decide +kernel) rfl), (zg_in 53 (by decide +kernel) rfl), ⟨by decide +kernel, by decide +kernel, by decide +kernel⟩, by decide⟩
theorem cd_X9_write : zCd yX9_write cX9_write 2 (some .int) 1 := ⟨(zg_in 840 (by decide +kernel) rfl), (zg_in 53 (by decide +kernel) rfl), ⟨by decide +kernel, by decide +kernel, by decide +kernel⟩, by decide⟩
theorem cd_X9_in : zCd yX9_in cX9_in 6 (some .boolean) 3 := ⟨(zg_in 844 (by decide +kernel) rfl), (zg_in 53 (by decide +kernel) rfl), ⟨by decide +kernel, by decide +kernel, by decide +kernel⟩, by decide⟩
theorem cd_X9_wipe : zCd yX9_wipe cX9_wipe 2 (some .int) 0 := ⟨(zg_in 848 (by decide +kernel) rfl), (zg_in 53 (by decide +kernel) rfl), ⟨by decide +kernel, by decide +kernel, by decide +kernel⟩, by decide⟩
theorem cd_X9_fault : zCd yX9_fault cX9_fault 1 (some .int) 0 := ⟨(zg_in 852 (by decide +kernel) rfl), (zg_in 53 (by decide +kernel) rfl), ⟨by decide +kernel, by decide +kernel, by decide +kernel⟩, by decide⟩
theorem cd_X9_readRoom : zCd yX9_readRoom cX9_readRoom 1 (some .int) 0 := ⟨(zg_in 856 (by decide +kernel) rfl), (zg_in 53 (by decide +kernel) rfl), ⟨by decide +kernel, by decide +kernel, by decide +kernel⟩, by decide⟩
theorem cd_X9_from : zCd yX9_from cX9_from 4 (some .int) 3 := ⟨(zg_in 860 (by decide +kernel) rfl), (zg_in 53 (by decide +kernel) rfl), ⟨by decide +kernel, by decide +kernel, by decide +kernel⟩, by decide⟩
theorem cd_X9_readThing : zCd yX9_readThing cX9_readThing 2 (some .boolean) 0 := ⟨(zg_in 864 (by decide +kernel) rfl), (zg_in 53 (by decide +kernel) rfl), ⟨by decide +kernel, by decide +kernel, by decide +kernel⟩, by decide⟩
theorem cd_X9_readOneLetter : zCd yX9_readOneLetter cX9_readOneLetter 4 (some .boolean) 0 := ⟨(zg_in 868 (by decide +kernel) rfl), (zg_in 53 (by decide +kernel) rfl), ⟨by decide +kernel, by decide +kernel, by decide +kernel⟩, by decide⟩
theorem cd_X9_readIn : zCd yX9_readIn cX9_readIn 4 (some .int) 1 := ⟨(zg_in 872 (by decide +kernel) rfl), (zg_in 53 (by decide +kernel) rfl), ⟨by decide +kernel, by decide +kernel, by decide +kernel⟩, by decide⟩
theorem cd_X9_readOneClerk : zCd yX9_readOneClerk cX9_readOneClerk 3 (some .boolean) 0 := ⟨(zg_in 876 (by decide +kernel) rfl), (zg_in 53 (by decide +kernel) rfl), ⟨by decide +kernel, by decide +kernel, by decide +kernel⟩, by decide⟩
theorem cd_X9_room : zCd yX9_room cX9_room 2 (some .int) 0 := ⟨(zg_in 880 (by decide +kernel) rfl), (zg_in 53 (by decide +kernel) rfl), ⟨by decide +kernel, by decide +kernel, by decide +kernel⟩, by decide⟩
theorem cd_X9_about : zCd yX9_about cX9_about 2 (some .int) 1 := ⟨(zg_in 884 (by decide +kernel) rfl), (zg_in 53 (by decide +kernel) rfl), ⟨by decide +kernel, by decide +kernel, by decide +kernel⟩, by decide⟩
theorem cd_X9_thatAre : zCd yX9_thatAre cX9_thatAre 5 (some .int) 2 := ⟨(zg_in 888 (by decide +kernel) rfl), (zg_in 53 (by decide +kernel) rfl), ⟨by decide +kernel, by decide +kernel, by decide +kernel⟩, by decide⟩
theorem cd_X9_pairs : zCd yX9_pairs cX9_pairs 3 (some .int) 0 := ⟨(zg_in 892 (by decide +kernel) rfl), (zg_in 53 (by decide +kernel) rfl), ⟨by decide +kernel, by decide +kernel, by decide +kernel⟩, by decide⟩
theorem cd_X9_inHole : zCd yX9_inHole cX9_inHole 6 (some .int) 2 := ⟨(zg_in 896 (by decide +kernel) rfl), (zg_in 53 (by decide +kernel) rfl), ⟨by decide +kernel, by decide +kernel, by decide +kernel⟩, by decide⟩
theorem cd_X9_many : zCd yX9_many cX9_many 3 (some .int) 1 := ⟨(zg_in 899 (by decide +kernel) rfl), (zg_in 53 (by decide +kernel) rfl), ⟨by decide +kernel, by decide +kernel, by decide +kernel⟩, by decide⟩
theorem cd_X9_letter : zCd yX9_letter cX9_letter 3 (some .int) 2 := ⟨(zg_in 903 (by decide +kernel) rfl), (zg_in 53 (by decide +kernel) rfl), ⟨by decide +kernel, by decide +kernel, by decide +kernel⟩, by decide⟩
theorem cd_X9_noLetter : zCd yX9_noLetter cX9_noLetter 2 (some .boolean) 1 := ⟨(zg_in 907 (by decide +kernel) rfl), (zg_in 53 (by decide +kernel) rfl), ⟨by decide +kernel, by decide +kernel, by decide +kernel⟩, by decide⟩
theorem cd_X9_toWait : zCd yX9_toWait cX9_toWait 4 (some .int) 2 := ⟨(zg_in 911 (by decide +kernel) rfl), (zg_in 53 (by decide +kernel) rfl), ⟨by decide +kernel, by decide +kernel, by decide +kernel⟩, by decide⟩
theorem cd_X9_needs : zCd yX9_needs cX9_needs 5 (some .int) 2 := ⟨(zg_in 915 (by decide +kernel) rfl), (zg_in 53 (by decide +kernel) rfl), ⟨by decide +kernel, by decide +kernel, by decide +kernel⟩, by decide⟩
theorem cd_X9_halfOf : zCd yX9_halfOf cX9_halfOf 1 (some .int) 1 := ⟨(zg_in 918 (by decide +kernel) rfl), (zg_in 53 (by decide +kernel) rfl), ⟨by decide +kernel, by decide +kernel, by decide +kernel⟩, by decide⟩
theorem cd_X9_clerk : zCd yX9_clerk cX9_clerk 3 (some .int) 2 := ⟨(zg_in 922 (by decide +kernel) rfl), (zg_in 53 (by decide +kernel) rfl), ⟨by decide +kernel, by decide +kernel, by decide +kernel⟩, by decide⟩
theorem cd_X9_noClerk : zCd yX9_noClerk cX9_noClerk 2 (some .boolean) 1 := ⟨(zg_in 926 (by decide +kernel) rfl), (zg_in 53 (by decide +kernel) rfl), ⟨by decide +kernel, by decide +kernel, by decide +kernel⟩, by decide⟩
theorem cd_X9_hole : zCd yX9_hole cX9_hole 2 (some .int) 1 := ⟨(zg_in 930 (by decide +kernel) rfl), (zg_in 53 (by decide +kernel) rfl), ⟨by decide +kernel, by decide +kernel, by decide +kernel⟩, by decide⟩
theorem cd_X9_day : zCd yX9_day cX9_day 1 (some .int) 0 := ⟨(zg_in 935 (by decide +kernel) rfl), (zg_in 53 (by decide +kernel) rfl), ⟨by decide +kernel, by decide +kernel, by decide +kernel⟩, by decide⟩
theorem cd_X9_note : zCd yX9_note cX9_note 2 none 0 := ⟨(zg_in 939 (by decide +kernel) rfl), (zg_in 53 (by decide +kernel) rfl), ⟨by decide +kernel, by decide +kernel, by decide +kernel⟩, by decide⟩
theorem cd_X9_goDay : zCd yX9_goDay cX9_goDay 4 (some .int) 1 := ⟨(zg_in 943 (by decide +kernel) rfl), (zg_in 53 (by decide +kernel) rfl), ⟨by decide +kernel, by decide +kernel, by decide +kernel⟩, by decide⟩
theorem cd_X9_has : zCd yX9_has cX9_has 2 (some .boolean) 2 := ⟨(zg_in 946 (by decide +kernel) rfl), (zg_in 53 (by decide +kernel) rfl), ⟨by decide +kernel, by decide +kernel, by decide +kernel⟩, by decide⟩
theorem cd_X9_answer : zCd yX9_answer cX9_answer 5 none 2 := ⟨(zg_in 950 (by decide +kernel) rfl), (zg_in 53 (by decide +kernel) rfl), ⟨by decide +kernel, by decide +kernel, by decide +kernel⟩, by decide⟩
theorem cd_X9_nextOf : zCd yX9_nextOf cX9_nextOf 6 (some .int) 2 := ⟨(zg_in 954 (by decide +kernel) rfl), (zg_in 53 (by decide +kernel) rfl), ⟨by decide +kernel, by decide +kernel, by decide +kernel⟩, by decide⟩
theorem cd_X9_hatch : zCd yX9_hatch cX9_hatch 4 (some .int) 1 := ⟨(zg_in 958 (by decide +kernel) rfl), (zg_in 53 (by decide +kernel) rfl), ⟨by decide +kernel, by decide +kernel, by decide +kernel⟩, by decide⟩
theorem cd_X9_putOut : zCd yX9_putOut cX9_putOut 5 none 2 := ⟨(zg_in 962 (by decide +kernel) rfl), (zg_in 53 (by decide +kernel) rfl), ⟨by decide +kernel, by decide +kernel, by decide +kernel⟩, by decide⟩
theorem cd_X9_put : zCd yX9_put cX9_put 4 (some .int) 2 := ⟨(zg_in 966 (by decide +kernel) rfl), (zg_in 53 (by decide +kernel) rfl), ⟨by decide +kernel, by decide +kernel, by decide +kernel⟩, by decide⟩
theorem cd_X9_canPut : zCd yX9_canPut cX9_canPut 4 (some .boolean) 3 := ⟨(zg_in 970 (by decide +kernel) rfl), (zg_in 53 (by decide +kernel) rfl), ⟨by decide +kernel, by decide +kernel, by decide +kernel⟩, by decide⟩
theorem cd_X9_feed : zCd yX9_feed cX9_feed 2 (some .int) 1 := ⟨(zg_in 974 (by decide +kernel) rfl), (zg_in 53 (by decide +kernel) rfl), ⟨by decide +kernel, by decide +kernel, by decide +kernel⟩, by decide⟩
theorem cd_X9_goFeed : zCd yX9_goFeed cX9_goFeed 2 none 2 := ⟨(zg_in 978 (by decide +kernel) rfl), (zg_in 53 (by decide +kernel) rfl), ⟨by decide +kernel, by decide +kernel, by decide +kernel⟩, by decide⟩
theorem cd_X9_send : zCd yX9_send cX9_send 4 (some .int) 2 := ⟨(zg_in 982 (by decide +kernel) rfl), (zg_in 53 (by decide +kernel) rfl), ⟨by decide +kernel, by decide +kernel, by decide +kernel⟩, by decide⟩
theorem cd_X9_undo : zCd yX9_undo cX9_undo 2 (some .int) 0 := ⟨(zg_in 987 (by decide +kernel) rfl), (zg_in 53 (by decide +kernel) rfl), ⟨by decide +kernel, by decide +kernel, by decide +kernel⟩, by decide⟩
theorem cd_X9_ahead : zCd yX9_ahead cX9_ahead 3 (some .int) 2 := ⟨(zg_in 991 (by decide +kernel) rfl), (zg_in 53 (by decide +kernel) rfl), ⟨by decide +kernel, by decide +kernel, by decide +kernel⟩, by decide⟩
theorem cd_X9_begin : zCd yX9_begin cX9_begin 2 none 0 := ⟨(zg_in 997 (by decide +kernel) rfl), (zg_in 53 (by decide +kernel) rfl), ⟨by decide +kernel, by decide +kernel, by decide +kernel⟩, by decide⟩
theorem cd_X9_goDays : zCd yX9_goDays cX9_goDays 3 none 1 := ⟨(zg_in 1001 (by decide +kernel) rfl), (zg_in 53 (by decide +kernel) rfl), ⟨by decide +kernel, by decide +kernel, by decide +kernel⟩, by decide⟩
theorem cd_X9_hatches : zCd yX9_hatches cX9_hatches 2 (some .int) 1 := ⟨(zg_in 1005 (by decide +kernel) rfl), (zg_in 53 (by decide +kernel) rfl), ⟨by decide +kernel, by decide +kernel, by decide +kernel⟩, by decide⟩
theorem cd_X9_hatchesThen : zCd yX9_hatchesThen cX9_hatchesThen 3 (some .int) 1 := ⟨(zg_in 1009 (by decide +kernel) rfl), (zg_in 53 (by decide +kernel) rfl), ⟨by decide +kernel, by decide +kernel, by decide +kernel⟩, by decide⟩
theorem cd_X9_lost : zCd yX9_lost cX9_lost 2 (some .int) 1 := ⟨(zg_in 1013 (by decide +kernel) rfl), (zg_in 53 (by decide +kernel) rfl), ⟨by decide +kernel, by decide +kernel, by decide +kernel⟩, by decide⟩
theorem cd_X9_rows : zCd yX9_rows cX9_rows 6 (some .int) 1 := ⟨(zg_in 1017 (by decide +kernel) rfl), (zg_in 53 (by decide +kernel) rfl), ⟨by decide +kernel, by decide +kernel, by decide +kernel⟩, by decide⟩
theorem cd_X9_power : zCd yX9_power cX9_power 4 (some .int) 2 := ⟨(zg_in 1020 (by decide +kernel) rfl), (zg_in 53 (by decide +kernel) rfl), ⟨by decide +kernel, by decide +kernel, by decide +kernel⟩, by decide⟩
theorem cd_X9_saved : zCd yX9_saved cX9_saved 6 (some .int) 1 := ⟨(zg_in 1024 (by decide +kernel) rfl), (zg_in 53 (by decide +kernel) rfl), ⟨by decide +kernel, by decide +kernel, by decide +kernel⟩, by decide⟩
theorem cd_X9_quiet : zCd yX9_quiet cX9_quiet 5 (some .int) 0 := ⟨(zg_in 1028 (by decide +kernel) rfl), (zg_in 53 (by decide +kernel) rfl), ⟨by decide +kernel, by decide +kernel, by decide +kernel⟩, by decide⟩
theorem cd_X9_isQuiet : zCd yX9_isQuiet cX9_isQuiet 4 (some .boolean) 1 := ⟨(zg_in 1032 (by decide +kernel) rfl), (zg_in 53 (by decide +kernel) rfl), ⟨by decide +kernel, by decide +kernel, by decide +kernel⟩, by decide⟩
theorem cd_X9_judge : zCd yX9_judge cX9_judge 5 (some .int) 2 := ⟨(zg_in 1036 (by decide +kernel) rfl), (zg_in 53 (by decide +kernel) rfl), ⟨by decide +kernel, by decide +kernel, by decide +kernel⟩, by decide⟩
theorem cd_X9_longPower : zCd yX9_longPower cX9_longPower 6 (some .long) 2 := ⟨(zg_in 1041 (by decide +kernel) rfl), (zg_in 53 (by decide +kernel) rfl), ⟨by decide +kernel, by decide +kernel, by decide +kernel⟩, by decide⟩
theorem cd_X9_does : zCd yX9_does cX9_does 5 (some .boolean) 1 := ⟨(zg_in 1045 (by decide +kernel) rfl), (zg_in 53 (by decide +kernel) rfl), ⟨by decide +kernel, by decide +kernel, by decide +kernel⟩, by decide⟩
theorem cd_X9_share : zCd yX9_share cX9_share 6 (some .int) 2 := ⟨(zg_in 1049 (by decide +kernel) rfl), (zg_in 53 (by decide +kernel) rfl), ⟨by decide +kernel, by decide +kernel, by decide +kernel⟩, by decide⟩
theorem cd_X9_ways : zCd yX9_ways cX9_ways 3 (some .int) 1 := ⟨(zg_in 1052 (by decide +kernel) rfl), (zg_in 53 (by decide +kernel) rfl), ⟨by decide +kernel, by decide +kernel, by decide +kernel⟩, by decide⟩
theorem cd_X9_fraction : zCd yX9_fraction cX9_fraction 4 (some .int) 3 := ⟨(zg_in 1055 (by decide +kernel) rfl), (zg_in 53 (by decide +kernel) rfl), ⟨by decide +kernel, by decide +kernel, by decide +kernel⟩, by decide⟩
theorem cd_X9_divisor : zCd yX9_divisor cX9_divisor 5 (some .int) 2 := ⟨(zg_in 1058 (by decide +kernel) rfl), (zg_in 53 (by decide +kernel) rfl), ⟨by decide +kernel, by decide +kernel, by decide +kernel⟩, by decide⟩
theorem cd_X9_tell : zCd yX9_tell cX9_tell 3 (some .int) 2 := ⟨(zg_in 1062 (by decide +kernel) rfl), (zg_in 53 (by decide +kernel) rfl), ⟨by decide +kernel, by decide +kernel, by decide +kernel⟩, by decide⟩
theorem cd_X9_untell : zCd yX9_untell cX9_untell 2 (some .int) 0 := ⟨(zg_in 1066 (by decide +kernel) rfl), (zg_in 53 (by decide +kernel) rfl), ⟨by decide +kernel, by decide +kernel, by decide +kernel⟩, by decide⟩
theorem cd_X9_may : zCd yX9_may cX9_may 7 (some .int) 1 := ⟨(zg_in 1070 (by decide +kernel) rfl), (zg_in 53 (by decide +kernel) rfl), ⟨by decide +kernel, by decide +kernel, by decide +kernel⟩, by decide⟩
theorem cd_X9_rests : zCd yX9_rests cX9_rests 7 (some .int) 3 := ⟨(zg_in 1074 (by decide +kernel) rfl), (zg_in 53 (by decide +kernel) rfl), ⟨by decide +kernel, by decide +kernel, by decide +kernel⟩, by decide⟩
theorem cd_X9_layGains : zCd yX9_layGains cX9_layGains 5 none 3 := ⟨(zg_in 1078 (by decide +kernel) rfl), (zg_in 53 (by decide +kernel) rfl), ⟨by decide +kernel, by decide +kernel, by decide +kernel⟩, by decide⟩
theorem cd_X9_hawks : zCd yX9_hawks cX9_hawks 8 (some .int) 3 := ⟨(zg_in 1082 (by decide +kernel) rfl), (zg_in 53 (by decide +kernel) rfl), ⟨by decide +kernel, by decide +kernel, by decide +kernel⟩, by decide⟩
theorem cd_X9_seed : zCd yX9_seed cX9_seed 5 (some .long) 1 := ⟨(zg_in 1088 (by decide +kernel) rfl), (zg_in 53 (by decide +kernel) rfl), ⟨by decide +kernel, by decide +kernel, by decide +kernel⟩, by decide⟩
theorem cd_X9_years : zCd yX9_years cX9_years 5 (some .int) 1 := ⟨(zg_in 1092 (by decide +kernel) rfl), (zg_in 53 (by decide +kernel) rfl), ⟨by decide +kernel, by decide +kernel, by decide +kernel⟩, by decide⟩
theorem cd_X9_keep : zCd yX9_keep cX9_keep 3 (some .int) 1 := ⟨(zg_in 1100 (by decide +kernel) rfl), (zg_in 53 (by decide +kernel) rfl), ⟨by decide +kernel, by decide +kernel, by decide +kernel⟩, by decide⟩
theorem cd_X9_again : zCd yX9_again cX9_again 3 (some .int) 1 := ⟨(zg_in 1104 (by decide +kernel) rfl), (zg_in 53 (by decide +kernel) rfl), ⟨by decide +kernel, by decide +kernel, by decide +kernel⟩, by decide⟩
theorem lk_L_9 : Cond.instanceMethod yX8_init ∈ lw_g ∧ zLk RL 9 yX8_init := ⟨(zg_in 59 (by decide +kernel) rfl), (Or.inl (zg_in 58 (by decide +kernel) rfl))⟩
theorem lk_X8_9 : Cond.instanceMethod yX5_init ∈ lw_g ∧ zLk RX8 9 yX5_init := ⟨(zg_in 67 (by decide +kernel) rfl), (Or.inr ⟨_, zn_in (w := .methodLinkNest RX8 9 yX5_init "PigeonMail") 66 (by decide +kernel) rfl⟩)⟩
theorem lk_X5_17 : Cond.instanceMethod yX4_init ∈ lw_g ∧ zLk RX5 17 yX4_init := ⟨(zg_in 73 (by decide +kernel) rfl), (Or.inr ⟨_, zn_in (w := .methodLinkNest RX5 17 yX4_init "PigeonMail") 72 (by decide +kernel) rfl⟩)⟩
theorem lk_X8_18 : Cond.instanceMethod yX4_init ∈ lw_g ∧ zLk RX8 18 yX4_init := ⟨(zg_in 73 (by decide +kernel) rfl), (Or.inr ⟨_, zn_in (w := .methodLinkNest RX8 18 yX4_init "PigeonMail") 141 (by decide +kernel) rfl⟩)⟩
theorem lk_X8_25 : Cond.instanceMethod yX1_init ∈ lw_g ∧ zLk RX8 25 yX1_init := ⟨(zg_in 145 (by decide +kernel) rfl), (Or.inl (zg_in 144 (by decide +kernel) rfl))⟩
theorem lk_X8_34 : Cond.instanceMethod yX2_init ∈ lw_g ∧ zLk RX8 34 yX2_init := ⟨(zg_in 163 (by decide +kernel) rfl), (Or.inl (zg_in 162 (by decide +kernel) rfl))⟩
theorem lk_X2_34 : Cond.instanceMethod yX1_init ∈ lw_g ∧ zLk RX2 34 yX1_init := ⟨(zg_in 145 (by decide +kernel) rfl), (Or.inl (zg_in 167 (by decide +kernel) rfl))⟩
theorem lk_X8_43 : Cond.instanceMethod yX3_init ∈ lw_g ∧ zLk RX8 43 yX3_init := ⟨(zg_in 197 (by decide +kernel) rfl), (Or.inr ⟨_, zn_in (w := .methodLinkNest RX8 43 yX3_init "PigeonMail") 196 (by decide +kernel) rfl⟩)⟩
theorem lk_X3_11 : Cond.instanceMethod yX6_init ∈ lw_g ∧ zLk RX3 11 yX6_init := ⟨(zg_in 203 (by decide +kernel) rfl), (Or.inl (zg_in 202 (by decide +kernel) rfl))⟩
theorem lk_X6_7 : zLm RX6 7 Lib.Math.max.name Lib.Math.max.code 2 := ⟨(zg_in 206 (by decide +kernel) rfl), (zg_in 207 (by decide +kernel) rfl), (zg_in 50 (by decide +kernel) rfl), (zg_in 208 (by decide +kernel) rfl)⟩
theorem lk_X8_50 : Cond.instanceMethod yX6_init ∈ lw_g ∧ zLk RX8 50 yX6_init := ⟨(zg_in 203 (by decide +kernel) rfl), (Or.inl (zg_in 228 (by decide +kernel) rfl))⟩
theorem lk_X8_63 : Cond.instanceMethod yX7_init ∈ lw_g ∧ zLk RX8 63 yX7_init := ⟨(zg_in 232 (by decide +kernel) rfl), (Or.inr ⟨_, zn_in (w := .methodLinkNest RX8 63 yX7_init "PigeonMail") 231 (by decide +kernel) rfl⟩)⟩
theorem lk_X8_70 : Cond.instanceMethod yX0_init ∈ lw_g ∧ zLk RX8 70 yX0_init := ⟨(zg_in 250 (by decide +kernel) rfl), (Or.inr ⟨_, zn_in (w := .methodLinkNest RX8 70 yX0_init "PigeonMail") 249 (by decide +kernel) rfl⟩)⟩
theorem lk_L_13 : zLv RL 13 yX8_write := ⟨(zg_in 289 (by decide +kernel) rfl), (zg_in 290 (by decide +kernel) rfl), (Or.inl (zg_in 288 (by decide +kernel) rfl))⟩
theorem lk_X8_75 : zLv RX8 75 yX5_add := ⟨(zg_in 293 (by decide +kernel) rfl), (zg_in 294 (by decide +kernel) rfl), (Or.inl (zg_in 292 (by decide +kernel) rfl))⟩
theorem lk_L_18 : zLv RL 18 yX8_wipe := ⟨(zg_in 297 (by decide +kernel) rfl), (zg_in 298 (by decide +kernel) rfl), (Or.inl (zg_in 296 (by decide +kernel) rfl))⟩
theorem lk_X8_79 : zLv RX8 79 yX5_clear := ⟨(zg_in 301 (by decide +kernel) rfl), (zg_in 302 (by decide +kernel) rfl), (Or.inl (zg_in 300 (by decide +kernel) rfl))⟩
theorem lk_L_23 : zLv RL 23 yX8_fault := ⟨(zg_in 305 (by decide +kernel) rfl), (zg_in 306 (by decide +kernel) rfl), (Or.inl (zg_in 304 (by decide +kernel) rfl))⟩
theorem lk_X8_83 : zLv RX8 83 yX5_firstFault := ⟨(zg_in 309 (by decide +kernel) rfl), (zg_in 310 (by decide +kernel) rfl), (Or.inl (zg_in 308 (by decide +kernel) rfl))⟩
theorem lk_X5_26 : zLv RX5 26 yX5_readInto := ⟨(zg_in 313 (by decide +kernel) rfl), (zg_in 314 (by decide +kernel) rfl), (Or.inl (zg_in 312 (by decide +kernel) rfl))⟩
theorem lk_X5_30 : zLv RX5 30 yX4_clear := ⟨(zg_in 317 (by decide +kernel) rfl), (zg_in 318 (by decide +kernel) rfl), (Or.inl (zg_in 316 (by decide +kernel) rfl))⟩
theorem lk_X5_33 : zLs RX5 33 yX5_readOutside := ⟨(zg_in 321 (by decide +kernel) rfl), (Or.inl (zg_in 320 (by decide +kernel) rfl))⟩
theorem lk_X5_43 : zLs RX5 43 yX5_isFigure := ⟨(zg_in 324 (by decide +kernel) rfl), (Or.inl (zg_in 323 (by decide +kernel) rfl))⟩
theorem lk_X5_37 : zLs RX5 37 yX5_readInside := ⟨(zg_in 327 (by decide +kernel) rfl), (Or.inl (zg_in 326 (by decide +kernel) rfl))⟩
theorem lk_X5_56 : zLs RX5 56 yX8_isHole := ⟨(zg_in 330 (by decide +kernel) rfl), (Or.inr ⟨_, zn_in (w := .methodLinkNest RX5 56 yX8_isHole "PigeonMail") 329 (by decide +kernel) rfl⟩)⟩
theorem lk_X5_60 : zLv RX5 60 yX4_homesIn := ⟨(zg_in 333 (by decide +kernel) rfl), (zg_in 334 (by decide +kernel) rfl), (Or.inl (zg_in 332 (by decide +kernel) rfl))⟩
theorem lk_X5_73 : zLs RX5 73 yX8_waitAlone := ⟨(zg_in 337 (by decide +kernel) rfl), (Or.inr ⟨_, zn_in (w := .methodLinkNest RX5 73 yX8_waitAlone "PigeonMail") 336 (by decide +kernel) rfl⟩)⟩
theorem lk_X8_253 : zLm RX8 253 Lib.Math.max.name Lib.Math.max.code 2 := ⟨(zg_in 339 (by decide +kernel) rfl), (zg_in 207 (by decide +kernel) rfl), (zg_in 50 (by decide +kernel) rfl), (zg_in 208 (by decide +kernel) rfl)⟩
theorem lk_L_27 : zLv RL 27 yX8_room := ⟨(zg_in 341 (by decide +kernel) rfl), (zg_in 342 (by decide +kernel) rfl), (Or.inl (zg_in 340 (by decide +kernel) rfl))⟩
theorem lk_X8_86 : zLv RX8 86 yX5_readInto := ⟨(zg_in 313 (by decide +kernel) rfl), (zg_in 314 (by decide +kernel) rfl), (Or.inl (zg_in 344 (by decide +kernel) rfl))⟩
theorem lk_X8_90 : zLv RX8 90 yX1_begin := ⟨(zg_in 346 (by decide +kernel) rfl), (zg_in 347 (by decide +kernel) rfl), (Or.inl (zg_in 345 (by decide +kernel) rfl))⟩
theorem lk_X8_93 : zLv RX8 93 yX3_clear := ⟨(zg_in 350 (by decide +kernel) rfl), (zg_in 351 (by decide +kernel) rfl), (Or.inl (zg_in 349 (by decide +kernel) rfl))⟩
theorem lk_L_31 : zLv RL 31 yX8_about := ⟨(zg_in 354 (by decide +kernel) rfl), (zg_in 355 (by decide +kernel) rfl), (Or.inl (zg_in 353 (by decide +kernel) rfl))⟩
theorem lk_X8_102 : zLv RX8 102 yX1_theDay := ⟨(zg_in 358 (by decide +kernel) rfl), (zg_in 359 (by decide +kernel) rfl), (Or.inl (zg_in 357 (by decide +kernel) rfl))⟩
theorem lk_X8_105 : zLv RX8 105 yX1_grain := ⟨(zg_in 362 (by decide +kernel) rfl), (zg_in 363 (by decide +kernel) rfl), (Or.inl (zg_in 361 (by decide +kernel) rfl))⟩
theorem lk_X8_108 : zLv RX8 108 yX1_who := ⟨(zg_in 366 (by decide +kernel) rfl), (zg_in 367 (by decide +kernel) rfl), (Or.inl (zg_in 365 (by decide +kernel) rfl))⟩
theorem lk_X8_111 : zLv RX8 111 yX1_pairs := ⟨(zg_in 370 (by decide +kernel) rfl), (zg_in 371 (by decide +kernel) rfl), (Or.inl (zg_in 369 (by decide +kernel) rfl))⟩
theorem lk_X1_46 : zLv RX1 46 yX1_who := ⟨(zg_in 366 (by decide +kernel) rfl), (zg_in 367 (by decide +kernel) rfl), (Or.inl (zg_in 373 (by decide +kernel) rfl))⟩
theorem lk_X1_55 : zLv RX1 55 yX1_whoIsIn := ⟨(zg_in 375 (by decide +kernel) rfl), (zg_in 376 (by decide +kernel) rfl), (Or.inl (zg_in 374 (by decide +kernel) rfl))⟩
theorem lk_X1_50 : zLs RX1 50 yJ6_bitCount_0f7a4 := ⟨(zg_in 379 (by decide +kernel) rfl), (Or.inl (zg_in 378 (by decide +kernel) rfl))⟩
theorem lk_L_35 : zLv RL 35 yX8_letter := ⟨(zg_in 385 (by decide +kernel) rfl), (zg_in 386 (by decide +kernel) rfl), (Or.inl (zg_in 384 (by decide +kernel) rfl))⟩
theorem lk_X8_121 : zLv RX8 121 yX4_hasLetter := ⟨(zg_in 389 (by decide +kernel) rfl), (zg_in 390 (by decide +kernel) rfl), (Or.inl (zg_in 388 (by decide +kernel) rfl))⟩
theorem lk_X8_125 : zLv RX8 125 yX1_holeOf := ⟨(zg_in 393 (by decide +kernel) rfl), (zg_in 394 (by decide +kernel) rfl), (Or.inl (zg_in 392 (by decide +kernel) rfl))⟩
theorem lk_X8_135 : zLv RX8 135 yX1_fateOf := ⟨(zg_in 397 (by decide +kernel) rfl), (zg_in 398 (by decide +kernel) rfl), (Or.inl (zg_in 396 (by decide +kernel) rfl))⟩
theorem lk_X8_138 : zLv RX8 138 yX1_waitedOf := ⟨(zg_in 401 (by decide +kernel) rfl), (zg_in 402 (by decide +kernel) rfl), (Or.inl (zg_in 400 (by decide +kernel) rfl))⟩
theorem lk_X8_141 : zLv RX8 141 yX1_daysLeft := ⟨(zg_in 405 (by decide +kernel) rfl), (zg_in 406 (by decide +kernel) rfl), (Or.inl (zg_in 404 (by decide +kernel) rfl))⟩
theorem lk_L_40 : zLv RL 40 yX8_clerk := ⟨(zg_in 409 (by decide +kernel) rfl), (zg_in 410 (by decide +kernel) rfl), (Or.inl (zg_in 408 (by decide +kernel) rfl))⟩
theorem lk_X8_144 : zLv RX8 144 yX4_hasClerk := ⟨(zg_in 413 (by decide +kernel) rfl), (zg_in 414 (by decide +kernel) rfl), (Or.inl (zg_in 412 (by decide +kernel) rfl))⟩
theorem lk_X8_147 : zLv RX8 147 yX1_rowOf := ⟨(zg_in 417 (by decide +kernel) rfl), (zg_in 418 (by decide +kernel) rfl), (Or.inl (zg_in 416 (by decide +kernel) rfl))⟩
theorem lk_L_44 : zLv RL 44 yX8_hole := ⟨(zg_in 421 (by decide +kernel) rfl), (zg_in 422 (by decide +kernel) rfl), (Or.inl (zg_in 420 (by decide +kernel) rfl))⟩
theorem lk_X8_153 : zLs RX8 153 yX8_isHole := ⟨(zg_in 330 (by decide +kernel) rfl), (Or.inl (zg_in 424 (by decide +kernel) rfl))⟩
theorem lk_X8_156 : zLv RX8 156 yX1_whoIsIn := ⟨(zg_in 375 (by decide +kernel) rfl), (zg_in 376 (by decide +kernel) rfl), (Or.inl (zg_in 425 (by decide +kernel) rfl))⟩
theorem lk_L_48 : zLv RL 48 yX8_day := ⟨(zg_in 427 (by decide +kernel) rfl), (zg_in 428 (by decide +kernel) rfl), (Or.inl (zg_in 426 (by decide +kernel) rfl))⟩
theorem lk_X8_159 : zLv RX8 159 yX3_remember := ⟨(zg_in 431 (by decide +kernel) rfl), (zg_in 432 (by decide +kernel) rfl), (Or.inl (zg_in 430 (by decide +kernel) rfl))⟩
theorem lk_X3_27 : zLv RX3 27 yX6_store := ⟨(zg_in 435 (by decide +kernel) rfl), (zg_in 436 (by decide +kernel) rfl), (Or.inl (zg_in 434 (by decide +kernel) rfl))⟩
theorem lk_X6_26 : Cond.methodLink RX6 26 arraycopyName ∈ lw_g ∧ Cond.native arraycopyName ∈ lw_g ∧ Cond.static arraycopyName ∈ lw_g ∧ Cond.initialized "java/lang/System" ∈ lw_g := ⟨(zg_in 438 (by decide +kernel) rfl), (zg_in 440 (by decide +kernel) rfl), (zg_in 439 (by decide +kernel) rfl), (zg_in 55 (by decide +kernel) rfl)⟩
theorem lk_X8_163 : zLv RX8 163 yX1_passDay := ⟨(zg_in 442 (by decide +kernel) rfl), (zg_in 443 (by decide +kernel) rfl), (Or.inl (zg_in 441 (by decide +kernel) rfl))⟩
theorem lk_X1_83 : zLv RX1 83 yX1_clerkAnswers := ⟨(zg_in 447 (by decide +kernel) rfl), (zg_in 0 (by decide +kernel) rfl), (Or.inl (zg_in 445 (by decide +kernel) rfl))⟩
theorem lk_X1_99 : zLv RX1 99 yX1_mostPressing := ⟨(zg_in 451 (by decide +kernel) rfl), (zg_in 1 (by decide +kernel) rfl), (Or.inl (zg_in 449 (by decide +kernel) rfl))⟩
theorem lk_X1_87 : zLv RX1 87 yX1_daysLeft := ⟨(zg_in 405 (by decide +kernel) rfl), (zg_in 406 (by decide +kernel) rfl), (Or.inl (zg_in 453 (by decide +kernel) rfl))⟩
theorem lk_X1_90 : zLv RX1 90 yX1_hatch := ⟨(zg_in 456 (by decide +kernel) rfl), (zg_in 2 (by decide +kernel) rfl), (Or.inl (zg_in 454 (by decide +kernel) rfl))⟩
theorem lk_X1_93 : zLv RX1 93 yX1_birdsEat := ⟨(zg_in 460 (by decide +kernel) rfl), (zg_in 3 (by decide +kernel) rfl), (Or.inl (zg_in 458 (by decide +kernel) rfl))⟩
theorem lk_L_52 : zLv RL 52 yX8_put := ⟨(zg_in 463 (by decide +kernel) rfl), (zg_in 464 (by decide +kernel) rfl), (Or.inl (zg_in 462 (by decide +kernel) rfl))⟩
theorem lk_X8_166 : zLv RX8 166 yX1_canPut := ⟨(zg_in 467 (by decide +kernel) rfl), (zg_in 468 (by decide +kernel) rfl), (Or.inl (zg_in 466 (by decide +kernel) rfl))⟩
theorem lk_X1_64 : zLv RX1 64 yX4_hasLetter := ⟨(zg_in 389 (by decide +kernel) rfl), (zg_in 390 (by decide +kernel) rfl), (Or.inl (zg_in 470 (by decide +kernel) rfl))⟩
theorem lk_X1_68 : zLs RX1 68 yX8_isHole := ⟨(zg_in 330 (by decide +kernel) rfl), (Or.inr ⟨_, zn_in (w := .methodLinkNest RX1 68 yX8_isHole "PigeonMail") 471 (by decide +kernel) rfl⟩)⟩
theorem lk_X8_170 : zLv RX8 170 yX1_moveTo := ⟨(zg_in 473 (by decide +kernel) rfl), (zg_in 474 (by decide +kernel) rfl), (Or.inl (zg_in 472 (by decide +kernel) rfl))⟩
theorem lk_L_56 : zLv RL 56 yX8_feed := ⟨(zg_in 477 (by decide +kernel) rfl), (zg_in 478 (by decide +kernel) rfl), (Or.inl (zg_in 476 (by decide +kernel) rfl))⟩
theorem lk_X8_174 : zLv RX8 174 yX1_addGrain := ⟨(zg_in 481 (by decide +kernel) rfl), (zg_in 482 (by decide +kernel) rfl), (Or.inl (zg_in 480 (by decide +kernel) rfl))⟩
theorem lk_X1_77 : zLm RX1 77 Lib.Math.min.name Lib.Math.min.code 2 := ⟨(zg_in 484 (by decide +kernel) rfl), (zg_in 485 (by decide +kernel) rfl), (zg_in 50 (by decide +kernel) rfl), (zg_in 486 (by decide +kernel) rfl)⟩
theorem lk_L_60 : zLv RL 60 yX8_send := ⟨(zg_in 488 (by decide +kernel) rfl), (zg_in 489 (by decide +kernel) rfl), (Or.inl (zg_in 487 (by decide +kernel) rfl))⟩
theorem lk_X8_177 : zLs RX8 177 yX8_isRow := ⟨(zg_in 492 (by decide +kernel) rfl), (Or.inl (zg_in 491 (by decide +kernel) rfl))⟩
theorem lk_X8_180 : zLv RX8 180 yX1_canSend := ⟨(zg_in 495 (by decide +kernel) rfl), (zg_in 496 (by decide +kernel) rfl), (Or.inl (zg_in 494 (by decide +kernel) rfl))⟩
theorem lk_X1_71 : zLv RX1 71 yX4_hasClerk := ⟨(zg_in 413 (by decide +kernel) rfl), (zg_in 414 (by decide +kernel) rfl), (Or.inl (zg_in 498 (by decide +kernel) rfl))⟩
theorem lk_X1_74 : zLs RX1 74 yX8_isRow := ⟨(zg_in 492 (by decide +kernel) rfl), (Or.inr ⟨_, zn_in (w := .methodLinkNest RX1 74 yX8_isRow "PigeonMail") 499 (by decide +kernel) rfl⟩)⟩
theorem lk_X8_183 : zLv RX8 183 yX1_sendTo := ⟨(zg_in 501 (by decide +kernel) rfl), (zg_in 502 (by decide +kernel) rfl), (Or.inl (zg_in 500 (by decide +kernel) rfl))⟩
theorem lk_L_64 : zLv RL 64 yX8_undo := ⟨(zg_in 505 (by decide +kernel) rfl), (zg_in 506 (by decide +kernel) rfl), (Or.inl (zg_in 504 (by decide +kernel) rfl))⟩
theorem lk_X8_186 : zLv RX8 186 yX3_goBack := ⟨(zg_in 509 (by decide +kernel) rfl), (zg_in 510 (by decide +kernel) rfl), (Or.inl (zg_in 508 (by decide +kernel) rfl))⟩
theorem lk_X3_31 : zLv RX3 31 yX6_fetch := ⟨(zg_in 513 (by decide +kernel) rfl), (zg_in 514 (by decide +kernel) rfl), (Or.inl (zg_in 512 (by decide +kernel) rfl))⟩
theorem lk_L_68 : zLv RL 68 yX8_ahead := ⟨(zg_in 517 (by decide +kernel) rfl), (zg_in 518 (by decide +kernel) rfl), (Or.inl (zg_in 516 (by decide +kernel) rfl))⟩
theorem lk_X8_189 : zLv RX8 189 yX2_whoIn := ⟨(zg_in 521 (by decide +kernel) rfl), (zg_in 522 (by decide +kernel) rfl), (Or.inl (zg_in 520 (by decide +kernel) rfl))⟩
theorem lk_X2_40 : zLv RX2 40 yX1_beLike := ⟨(zg_in 525 (by decide +kernel) rfl), (zg_in 526 (by decide +kernel) rfl), (Or.inl (zg_in 524 (by decide +kernel) rfl))⟩
theorem lk_X1_40 : Cond.methodLink RX1 40 arraycopyName ∈ lw_g ∧ Cond.native arraycopyName ∈ lw_g ∧ Cond.static arraycopyName ∈ lw_g ∧ Cond.initialized "java/lang/System" ∈ lw_g := ⟨(zg_in 528 (by decide +kernel) rfl), (zg_in 440 (by decide +kernel) rfl), (zg_in 439 (by decide +kernel) rfl), (zg_in 55 (by decide +kernel) rfl)⟩
theorem lk_X2_44 : zLv RX2 44 yX1_passDay := ⟨(zg_in 442 (by decide +kernel) rfl), (zg_in 443 (by decide +kernel) rfl), (Or.inl (zg_in 529 (by decide +kernel) rfl))⟩
theorem lk_X2_48 : zLv RX2 48 yX1_who := ⟨(zg_in 366 (by decide +kernel) rfl), (zg_in 367 (by decide +kernel) rfl), (Or.inl (zg_in 530 (by decide +kernel) rfl))⟩
theorem lk_L_72 : zLv RL 72 yX8_hatches := ⟨(zg_in 532 (by decide +kernel) rfl), (zg_in 533 (by decide +kernel) rfl), (Or.inl (zg_in 531 (by decide +kernel) rfl))⟩
theorem lk_X8_193 : zLv RX8 193 yX2_daysToHatch := ⟨(zg_in 536 (by decide +kernel) rfl), (zg_in 537 (by decide +kernel) rfl), (Or.inl (zg_in 535 (by decide +kernel) rfl))⟩
theorem lk_X2_52 : zLv RX2 52 yX1_moveTo := ⟨(zg_in 473 (by decide +kernel) rfl), (zg_in 474 (by decide +kernel) rfl), (Or.inl (zg_in 539 (by decide +kernel) rfl))⟩
theorem lk_X2_56 : zLv RX2 56 yX1_fateOf := ⟨(zg_in 397 (by decide +kernel) rfl), (zg_in 398 (by decide +kernel) rfl), (Or.inl (zg_in 540 (by decide +kernel) rfl))⟩
theorem lk_L_76 : zLv RL 76 yX8_rows := ⟨(zg_in 542 (by decide +kernel) rfl), (zg_in 543 (by decide +kernel) rfl), (Or.inl (zg_in 541 (by decide +kernel) rfl))⟩
theorem lk_X8_196 : zLv RX8 196 yX2_bestRows := ⟨(zg_in 546 (by decide +kernel) rfl), (zg_in 547 (by decide +kernel) rfl), (Or.inl (zg_in 545 (by decide +kernel) rfl))⟩
theorem lk_X2_65 : zLv RX2 65 yX2_sendAll := ⟨(zg_in 551 (by decide +kernel) rfl), (zg_in 4 (by decide +kernel) rfl), (Or.inl (zg_in 549 (by decide +kernel) rfl))⟩
theorem lk_X2_71 : zLv RX2 71 yX1_sendTo := ⟨(zg_in 501 (by decide +kernel) rfl), (zg_in 502 (by decide +kernel) rfl), (Or.inl (zg_in 553 (by decide +kernel) rfl))⟩
theorem lk_X2_68 : zLv RX2 68 yX1_lost := ⟨(zg_in 555 (by decide +kernel) rfl), (zg_in 556 (by decide +kernel) rfl), (Or.inl (zg_in 554 (by decide +kernel) rfl))⟩
theorem lk_L_81 : zLv RL 81 yX8_saved := ⟨(zg_in 559 (by decide +kernel) rfl), (zg_in 560 (by decide +kernel) rfl), (Or.inl (zg_in 558 (by decide +kernel) rfl))⟩
theorem lk_X8_200 : zLv RX8 200 yX2_safestHole := ⟨(zg_in 563 (by decide +kernel) rfl), (zg_in 564 (by decide +kernel) rfl), (Or.inl (zg_in 562 (by decide +kernel) rfl))⟩
theorem lk_X2_74 : zLv RX2 74 yX1_holeOf := ⟨(zg_in 393 (by decide +kernel) rfl), (zg_in 394 (by decide +kernel) rfl), (Or.inl (zg_in 566 (by decide +kernel) rfl))⟩
theorem lk_X2_77 : zLv RX2 77 yX1_canPut := ⟨(zg_in 467 (by decide +kernel) rfl), (zg_in 468 (by decide +kernel) rfl), (Or.inl (zg_in 567 (by decide +kernel) rfl))⟩
theorem lk_X2_81 : zLv RX2 81 yX2_daysToHatch := ⟨(zg_in 536 (by decide +kernel) rfl), (zg_in 537 (by decide +kernel) rfl), (Or.inl (zg_in 568 (by decide +kernel) rfl))⟩
theorem lk_L_85 : zLv RL 85 yX8_quiet := ⟨(zg_in 570 (by decide +kernel) rfl), (zg_in 571 (by decide +kernel) rfl), (Or.inl (zg_in 569 (by decide +kernel) rfl))⟩
theorem lk_X8_203 : zLv RX8 203 yX2_fewestForQuiet := ⟨(zg_in 574 (by decide +kernel) rfl), (zg_in 575 (by decide +kernel) rfl), (Or.inl (zg_in 573 (by decide +kernel) rfl))⟩
theorem lk_X2_85 : zLs RX2 85 yJ6_bitCount_0f7a4 := ⟨(zg_in 379 (by decide +kernel) rfl), (Or.inl (zg_in 577 (by decide +kernel) rfl))⟩
theorem lk_X2_90 : zLv RX2 90 yX2_isQuiet := ⟨(zg_in 580 (by decide +kernel) rfl), (zg_in 5 (by decide +kernel) rfl), (Or.inl (zg_in 578 (by decide +kernel) rfl))⟩
theorem lk_X2_97 : zLv RX2 97 yX1_answer := ⟨(zg_in 583 (by decide +kernel) rfl), (zg_in 584 (by decide +kernel) rfl), (Or.inl (zg_in 582 (by decide +kernel) rfl))⟩
theorem lk_L_91 : zLv RL 91 yX8_judge := ⟨(zg_in 587 (by decide +kernel) rfl), (zg_in 588 (by decide +kernel) rfl), (Or.inl (zg_in 586 (by decide +kernel) rfl))⟩
theorem lk_X8_206 : zLv RX8 206 yX2_firstThatCanNotBe := ⟨(zg_in 591 (by decide +kernel) rfl), (zg_in 592 (by decide +kernel) rfl), (Or.inl (zg_in 590 (by decide +kernel) rfl))⟩
theorem lk_X2_101 : zLm RX2 101 Lib.Math.min.name Lib.Math.min.code 2 := ⟨(zg_in 594 (by decide +kernel) rfl), (zg_in 485 (by decide +kernel) rfl), (zg_in 50 (by decide +kernel) rfl), (zg_in 486 (by decide +kernel) rfl)⟩
theorem lk_X2_108 : zLv RX2 108 yX2_doIfCan := ⟨(zg_in 598 (by decide +kernel) rfl), (zg_in 6 (by decide +kernel) rfl), (Or.inl (zg_in 596 (by decide +kernel) rfl))⟩
theorem lk_X2_111 : zLv RX2 111 yX2_putIfCan := ⟨(zg_in 602 (by decide +kernel) rfl), (zg_in 7 (by decide +kernel) rfl), (Or.inl (zg_in 600 (by decide +kernel) rfl))⟩
theorem lk_X2_114 : zLv RX2 114 yX1_addGrain := ⟨(zg_in 481 (by decide +kernel) rfl), (zg_in 482 (by decide +kernel) rfl), (Or.inl (zg_in 604 (by decide +kernel) rfl))⟩
theorem lk_X2_117 : zLv RX2 117 yX2_sendIfCan := ⟨(zg_in 607 (by decide +kernel) rfl), (zg_in 8 (by decide +kernel) rfl), (Or.inl (zg_in 605 (by decide +kernel) rfl))⟩
theorem lk_X2_123 : zLv RX2 123 yX1_canSend := ⟨(zg_in 495 (by decide +kernel) rfl), (zg_in 496 (by decide +kernel) rfl), (Or.inl (zg_in 609 (by decide +kernel) rfl))⟩
theorem lk_X2_120 : zLv RX2 120 yX4_hasLetter := ⟨(zg_in 389 (by decide +kernel) rfl), (zg_in 390 (by decide +kernel) rfl), (Or.inl (zg_in 610 (by decide +kernel) rfl))⟩
theorem lk_L_96 : zLv RL 96 yX8_share := ⟨(zg_in 612 (by decide +kernel) rfl), (zg_in 613 (by decide +kernel) rfl), (Or.inl (zg_in 611 (by decide +kernel) rfl))⟩
theorem lk_X8_210 : zLv RX8 210 yX2_shareOf := ⟨(zg_in 616 (by decide +kernel) rfl), (zg_in 617 (by decide +kernel) rfl), (Or.inl (zg_in 615 (by decide +kernel) rfl))⟩
theorem lk_X2_126 : zLv RX2 126 yX2_fillLostWith := ⟨(zg_in 621 (by decide +kernel) rfl), (zg_in 9 (by decide +kernel) rfl), (Or.inl (zg_in 619 (by decide +kernel) rfl))⟩
theorem lk_X2_129 : zLs RX2 129 yX2_factorial := ⟨(zg_in 624 (by decide +kernel) rfl), (Or.inl (zg_in 623 (by decide +kernel) rfl))⟩
theorem lk_X2_132 : zLm RX2 132 Lib.Math.max.name Lib.Math.max.code 2 := ⟨(zg_in 626 (by decide +kernel) rfl), (zg_in 207 (by decide +kernel) rfl), (zg_in 50 (by decide +kernel) rfl), (zg_in 208 (by decide +kernel) rfl)⟩
theorem lk_X2_135 : zLs RX2 135 yX8_part := ⟨(zg_in 628 (by decide +kernel) rfl), (Or.inr ⟨_, zn_in (w := .methodLinkNest RX2 135 yX8_part "PigeonMail") 627 (by decide +kernel) rfl⟩)⟩
theorem lk_X8_258 : zLm RX8 258 Lib.Math.abs.name Lib.Math.abs.code 1 := ⟨(zg_in 630 (by decide +kernel) rfl), (zg_in 631 (by decide +kernel) rfl), (zg_in 50 (by decide +kernel) rfl), (zg_in 632 (by decide +kernel) rfl)⟩
theorem lk_L_101 : zLv RL 101 yX8_tell := ⟨(zg_in 634 (by decide +kernel) rfl), (zg_in 635 (by decide +kernel) rfl), (Or.inl (zg_in 633 (by decide +kernel) rfl))⟩
theorem lk_X8_214 : zLv RX8 214 yX7_add := ⟨(zg_in 638 (by decide +kernel) rfl), (zg_in 639 (by decide +kernel) rfl), (Or.inl (zg_in 637 (by decide +kernel) rfl))⟩
theorem lk_L_105 : zLv RL 105 yX8_untell := ⟨(zg_in 642 (by decide +kernel) rfl), (zg_in 643 (by decide +kernel) rfl), (Or.inl (zg_in 641 (by decide +kernel) rfl))⟩
theorem lk_X8_216 : zLv RX8 216 yX7_clear := ⟨(zg_in 646 (by decide +kernel) rfl), (zg_in 647 (by decide +kernel) rfl), (Or.inl (zg_in 645 (by decide +kernel) rfl))⟩
theorem lk_L_109 : zLv RL 109 yX8_may := ⟨(zg_in 650 (by decide +kernel) rfl), (zg_in 651 (by decide +kernel) rfl), (Or.inl (zg_in 649 (by decide +kernel) rfl))⟩
theorem lk_X8_217 : zLv RX8 217 yX7_howMany := ⟨(zg_in 654 (by decide +kernel) rfl), (zg_in 655 (by decide +kernel) rfl), (Or.inl (zg_in 653 (by decide +kernel) rfl))⟩
theorem lk_X7_23 : zLs RX7 23 yX8_waitAlone := ⟨(zg_in 337 (by decide +kernel) rfl), (Or.inr ⟨_, zn_in (w := .methodLinkNest RX7 23 yX8_waitAlone "PigeonMail") 657 (by decide +kernel) rfl⟩)⟩
theorem lk_X7_27 : zLv RX7 27 yX7_fits := ⟨(zg_in 660 (by decide +kernel) rfl), (zg_in 10 (by decide +kernel) rfl), (Or.inl (zg_in 658 (by decide +kernel) rfl))⟩
theorem lk_X8_220 : zLv RX8 220 yX7_first := ⟨(zg_in 663 (by decide +kernel) rfl), (zg_in 664 (by decide +kernel) rfl), (Or.inl (zg_in 662 (by decide +kernel) rfl))⟩
theorem lk_L_113 : zLv RL 113 yX8_rests := ⟨(zg_in 667 (by decide +kernel) rfl), (zg_in 668 (by decide +kernel) rfl), (Or.inl (zg_in 666 (by decide +kernel) rfl))⟩
theorem lk_X8_223 : zLv RX8 223 yX2_restsOf := ⟨(zg_in 671 (by decide +kernel) rfl), (zg_in 672 (by decide +kernel) rfl), (Or.inl (zg_in 670 (by decide +kernel) rfl))⟩
theorem lk_X2_139 : zLv RX2 139 yX2_fillGains := ⟨(zg_in 676 (by decide +kernel) rfl), (zg_in 11 (by decide +kernel) rfl), (Or.inl (zg_in 674 (by decide +kernel) rfl))⟩
theorem lk_X2_148 : zLv RX2 148 yX1_rowOf := ⟨(zg_in 417 (by decide +kernel) rfl), (zg_in 418 (by decide +kernel) rfl), (Or.inl (zg_in 678 (by decide +kernel) rfl))⟩
theorem lk_X2_142 : zLv RX2 142 yX2_isRest := ⟨(zg_in 681 (by decide +kernel) rfl), (zg_in 12 (by decide +kernel) rfl), (Or.inl (zg_in 679 (by decide +kernel) rfl))⟩
theorem lk_L_118 : zLv RL 118 yX8_hawks := ⟨(zg_in 684 (by decide +kernel) rfl), (zg_in 685 (by decide +kernel) rfl), (Or.inl (zg_in 683 (by decide +kernel) rfl))⟩
theorem lk_X8_227 : zLs RX8 227 yJ6_bitCount_0f7a4 := ⟨(zg_in 379 (by decide +kernel) rfl), (Or.inl (zg_in 687 (by decide +kernel) rfl))⟩
theorem lk_X8_232 : zLv RX8 232 yX0_left := ⟨(zg_in 689 (by decide +kernel) rfl), (zg_in 690 (by decide +kernel) rfl), (Or.inl (zg_in 688 (by decide +kernel) rfl))⟩
theorem lk_X0_15 : zLm RX0 15 Lib.Math.min.name Lib.Math.min.code 2 := ⟨(zg_in 692 (by decide +kernel) rfl), (zg_in 485 (by decide +kernel) rfl), (zg_in 50 (by decide +kernel) rfl), (zg_in 486 (by decide +kernel) rfl)⟩
theorem lk_X0_21 : zLv RX0 21 yX0_fill := ⟨(zg_in 695 (by decide +kernel) rfl), (zg_in 13 (by decide +kernel) rfl), (Or.inl (zg_in 693 (by decide +kernel) rfl))⟩
theorem lk_X0_24 : zLm RX0 24 Lib.Math.max.name Lib.Math.max.code 2 := ⟨(zg_in 697 (by decide +kernel) rfl), (zg_in 207 (by decide +kernel) rfl), (zg_in 50 (by decide +kernel) rfl), (zg_in 208 (by decide +kernel) rfl)⟩
theorem lk_X0_27 : zLs RX0 27 yX8_part := ⟨(zg_in 628 (by decide +kernel) rfl), (Or.inr ⟨_, zn_in (w := .methodLinkNest RX0 27 yX8_part "PigeonMail") 698 (by decide +kernel) rfl⟩)⟩
theorem lk_L_123 : zLv RL 123 yX8_seed := ⟨(zg_in 700 (by decide +kernel) rfl), (zg_in 701 (by decide +kernel) rfl), (Or.inl (zg_in 699 (by decide +kernel) rfl))⟩
theorem lk_L_128 : zLv RL 128 yX8_years := ⟨(zg_in 704 (by decide +kernel) rfl), (zg_in 705 (by decide +kernel) rfl), (Or.inl (zg_in 703 (by decide +kernel) rfl))⟩
theorem lk_X8_240 : zLv RX8 240 yX2_birdsOfYears := ⟨(zg_in 708 (by decide +kernel) rfl), (zg_in 709 (by decide +kernel) rfl), (Or.inl (zg_in 707 (by decide +kernel) rfl))⟩
theorem lk_X2_157 : zLv RX2 157 yX2_happen := ⟨(zg_in 716 (by decide +kernel) rfl), (zg_in 14 (by decide +kernel) rfl), (Or.inl (zg_in 714 (by decide +kernel) rfl))⟩
theorem lk_L_132 : zLv RL 132 yX8_keep := ⟨(zg_in 719 (by decide +kernel) rfl), (zg_in 720 (by decide +kernel) rfl), (Or.inl (zg_in 718 (by decide +kernel) rfl))⟩
theorem lk_X8_246 : zLv RX8 246 yX6_store := ⟨(zg_in 435 (by decide +kernel) rfl), (zg_in 436 (by decide +kernel) rfl), (Or.inl (zg_in 722 (by decide +kernel) rfl))⟩
theorem lk_L_136 : zLv RL 136 yX8_again := ⟨(zg_in 724 (by decide +kernel) rfl), (zg_in 725 (by decide +kernel) rfl), (Or.inl (zg_in 723 (by decide +kernel) rfl))⟩
theorem lk_X8_250 : zLv RX8 250 yX6_fetch := ⟨(zg_in 513 (by decide +kernel) rfl), (zg_in 514 (by decide +kernel) rfl), (Or.inl (zg_in 727 (by decide +kernel) rfl))⟩
theorem lk_L_12 : Cond.instanceMethod yX9_init ∈ lw_g ∧ zLk RL 12 yX9_init := ⟨(zg_in 731 (by decide +kernel) rfl), (Or.inl (zg_in 730 (by decide +kernel) rfl))⟩
theorem lk_L_17 : zLv RL 17 yX9_write := ⟨(zg_in 838 (by decide +kernel) rfl), (zg_in 839 (by decide +kernel) rfl), (Or.inl (zg_in 837 (by decide +kernel) rfl))⟩
theorem lk_X9_66 : zLs RX9 66 yX9_in := ⟨(zg_in 843 (by decide +kernel) rfl), (Or.inl (zg_in 842 (by decide +kernel) rfl))⟩
theorem lk_L_22 : zLv RL 22 yX9_wipe := ⟨(zg_in 846 (by decide +kernel) rfl), (zg_in 847 (by decide +kernel) rfl), (Or.inl (zg_in 845 (by decide +kernel) rfl))⟩
theorem lk_L_26 : zLv RL 26 yX9_fault := ⟨(zg_in 850 (by decide +kernel) rfl), (zg_in 851 (by decide +kernel) rfl), (Or.inl (zg_in 849 (by decide +kernel) rfl))⟩
theorem lk_X9_108 : zLv RX9 108 yX9_readRoom := ⟨(zg_in 855 (by decide +kernel) rfl), (zg_in 15 (by decide +kernel) rfl), (Or.inl (zg_in 853 (by decide +kernel) rfl))⟩
theorem lk_X9_84 : zLv RX9 84 yX9_from := ⟨(zg_in 859 (by decide +kernel) rfl), (zg_in 16 (by decide +kernel) rfl), (Or.inl (zg_in 857 (by decide +kernel) rfl))⟩
theorem lk_X9_105 : zLv RX9 105 yX9_readThing := ⟨(zg_in 863 (by decide +kernel) rfl), (zg_in 17 (by decide +kernel) rfl), (Or.inl (zg_in 861 (by decide +kernel) rfl))⟩
theorem lk_X9_95 : zLv RX9 95 yX9_readOneLetter := ⟨(zg_in 867 (by decide +kernel) rfl), (zg_in 18 (by decide +kernel) rfl), (Or.inl (zg_in 865 (by decide +kernel) rfl))⟩
theorem lk_X9_88 : zLv RX9 88 yX9_readIn := ⟨(zg_in 871 (by decide +kernel) rfl), (zg_in 19 (by decide +kernel) rfl), (Or.inl (zg_in 869 (by decide +kernel) rfl))⟩
theorem lk_X9_99 : zLv RX9 99 yX9_readOneClerk := ⟨(zg_in 875 (by decide +kernel) rfl), (zg_in 20 (by decide +kernel) rfl), (Or.inl (zg_in 873 (by decide +kernel) rfl))⟩
theorem lk_L_30 : zLv RL 30 yX9_room := ⟨(zg_in 878 (by decide +kernel) rfl), (zg_in 879 (by decide +kernel) rfl), (Or.inl (zg_in 877 (by decide +kernel) rfl))⟩
theorem lk_L_34 : zLv RL 34 yX9_about := ⟨(zg_in 882 (by decide +kernel) rfl), (zg_in 883 (by decide +kernel) rfl), (Or.inl (zg_in 881 (by decide +kernel) rfl))⟩
theorem lk_X9_122 : zLv RX9 122 yX9_thatAre := ⟨(zg_in 887 (by decide +kernel) rfl), (zg_in 21 (by decide +kernel) rfl), (Or.inl (zg_in 885 (by decide +kernel) rfl))⟩
theorem lk_X9_158 : zLv RX9 158 yX9_pairs := ⟨(zg_in 891 (by decide +kernel) rfl), (zg_in 22 (by decide +kernel) rfl), (Or.inl (zg_in 889 (by decide +kernel) rfl))⟩
theorem lk_X9_125 : zLv RX9 125 yX9_inHole := ⟨(zg_in 895 (by decide +kernel) rfl), (zg_in 23 (by decide +kernel) rfl), (Or.inl (zg_in 893 (by decide +kernel) rfl))⟩
theorem lk_X9_128 : zLs RX9 128 yX9_many := ⟨(zg_in 898 (by decide +kernel) rfl), (Or.inl (zg_in 897 (by decide +kernel) rfl))⟩
theorem lk_L_39 : zLv RL 39 yX9_letter := ⟨(zg_in 901 (by decide +kernel) rfl), (zg_in 902 (by decide +kernel) rfl), (Or.inl (zg_in 900 (by decide +kernel) rfl))⟩
theorem lk_X9_164 : zLv RX9 164 yX9_noLetter := ⟨(zg_in 906 (by decide +kernel) rfl), (zg_in 24 (by decide +kernel) rfl), (Or.inl (zg_in 904 (by decide +kernel) rfl))⟩
theorem lk_X9_131 : zLv RX9 131 yX9_toWait := ⟨(zg_in 910 (by decide +kernel) rfl), (zg_in 25 (by decide +kernel) rfl), (Or.inl (zg_in 908 (by decide +kernel) rfl))⟩
theorem lk_X9_118 : zLv RX9 118 yX9_needs := ⟨(zg_in 914 (by decide +kernel) rfl), (zg_in 26 (by decide +kernel) rfl), (Or.inl (zg_in 912 (by decide +kernel) rfl))⟩
theorem lk_X9_115 : zLs RX9 115 yX9_halfOf := ⟨(zg_in 917 (by decide +kernel) rfl), (Or.inl (zg_in 916 (by decide +kernel) rfl))⟩
theorem lk_L_43 : zLv RL 43 yX9_clerk := ⟨(zg_in 920 (by decide +kernel) rfl), (zg_in 921 (by decide +kernel) rfl), (Or.inl (zg_in 919 (by decide +kernel) rfl))⟩
theorem lk_X9_168 : zLv RX9 168 yX9_noClerk := ⟨(zg_in 925 (by decide +kernel) rfl), (zg_in 27 (by decide +kernel) rfl), (Or.inl (zg_in 923 (by decide +kernel) rfl))⟩
theorem lk_L_47 : zLv RL 47 yX9_hole := ⟨(zg_in 928 (by decide +kernel) rfl), (zg_in 929 (by decide +kernel) rfl), (Or.inl (zg_in 927 (by decide +kernel) rfl))⟩
theorem lk_L_51 : zLv RL 51 yX9_day := ⟨(zg_in 933 (by decide +kernel) rfl), (zg_in 934 (by decide +kernel) rfl), (Or.inl (zg_in 932 (by decide +kernel) rfl))⟩
theorem lk_X9_173 : zLv RX9 173 yX9_note := ⟨(zg_in 938 (by decide +kernel) rfl), (zg_in 28 (by decide +kernel) rfl), (Or.inl (zg_in 936 (by decide +kernel) rfl))⟩
theorem lk_X9_155 : zLv RX9 155 yX9_goDay := ⟨(zg_in 942 (by decide +kernel) rfl), (zg_in 29 (by decide +kernel) rfl), (Or.inl (zg_in 940 (by decide +kernel) rfl))⟩
theorem lk_X9_144 : zLs RX9 144 yX9_has := ⟨(zg_in 945 (by decide +kernel) rfl), (Or.inl (zg_in 944 (by decide +kernel) rfl))⟩
theorem lk_X9_148 : zLv RX9 148 yX9_answer := ⟨(zg_in 949 (by decide +kernel) rfl), (zg_in 30 (by decide +kernel) rfl), (Or.inl (zg_in 947 (by decide +kernel) rfl))⟩
theorem lk_X9_134 : zLv RX9 134 yX9_nextOf := ⟨(zg_in 953 (by decide +kernel) rfl), (zg_in 31 (by decide +kernel) rfl), (Or.inl (zg_in 951 (by decide +kernel) rfl))⟩
theorem lk_X9_151 : zLv RX9 151 yX9_hatch := ⟨(zg_in 957 (by decide +kernel) rfl), (zg_in 32 (by decide +kernel) rfl), (Or.inl (zg_in 955 (by decide +kernel) rfl))⟩
theorem lk_X9_137 : zLv RX9 137 yX9_putOut := ⟨(zg_in 961 (by decide +kernel) rfl), (zg_in 33 (by decide +kernel) rfl), (Or.inl (zg_in 959 (by decide +kernel) rfl))⟩
theorem lk_L_55 : zLv RL 55 yX9_put := ⟨(zg_in 964 (by decide +kernel) rfl), (zg_in 965 (by decide +kernel) rfl), (Or.inl (zg_in 963 (by decide +kernel) rfl))⟩
theorem lk_X9_176 : zLv RX9 176 yX9_canPut := ⟨(zg_in 969 (by decide +kernel) rfl), (zg_in 34 (by decide +kernel) rfl), (Or.inl (zg_in 967 (by decide +kernel) rfl))⟩
theorem lk_L_59 : zLv RL 59 yX9_feed := ⟨(zg_in 972 (by decide +kernel) rfl), (zg_in 973 (by decide +kernel) rfl), (Or.inl (zg_in 971 (by decide +kernel) rfl))⟩
theorem lk_X9_182 : zLs RX9 182 yX9_goFeed := ⟨(zg_in 977 (by decide +kernel) rfl), (Or.inl (zg_in 976 (by decide +kernel) rfl))⟩
theorem lk_L_63 : zLv RL 63 yX9_send := ⟨(zg_in 980 (by decide +kernel) rfl), (zg_in 981 (by decide +kernel) rfl), (Or.inl (zg_in 979 (by decide +kernel) rfl))⟩
theorem lk_L_67 : zLv RL 67 yX9_undo := ⟨(zg_in 985 (by decide +kernel) rfl), (zg_in 986 (by decide +kernel) rfl), (Or.inl (zg_in 984 (by decide +kernel) rfl))⟩
theorem lk_L_71 : zLv RL 71 yX9_ahead := ⟨(zg_in 989 (by decide +kernel) rfl), (zg_in 990 (by decide +kernel) rfl), (Or.inl (zg_in 988 (by decide +kernel) rfl))⟩
theorem lk_X9_191 : zLv RX9 191 yX9_begin := ⟨(zg_in 996 (by decide +kernel) rfl), (zg_in 35 (by decide +kernel) rfl), (Or.inl (zg_in 994 (by decide +kernel) rfl))⟩
theorem lk_X9_194 : zLv RX9 194 yX9_goDays := ⟨(zg_in 1000 (by decide +kernel) rfl), (zg_in 36 (by decide +kernel) rfl), (Or.inl (zg_in 998 (by decide +kernel) rfl))⟩
theorem lk_L_75 : zLv RL 75 yX9_hatches := ⟨(zg_in 1003 (by decide +kernel) rfl), (zg_in 1004 (by decide +kernel) rfl), (Or.inl (zg_in 1002 (by decide +kernel) rfl))⟩
theorem lk_X9_201 : zLv RX9 201 yX9_hatchesThen := ⟨(zg_in 1008 (by decide +kernel) rfl), (zg_in 37 (by decide +kernel) rfl), (Or.inl (zg_in 1006 (by decide +kernel) rfl))⟩
theorem lk_X9_198 : zLv RX9 198 yX9_lost := ⟨(zg_in 1012 (by decide +kernel) rfl), (zg_in 38 (by decide +kernel) rfl), (Or.inl (zg_in 1010 (by decide +kernel) rfl))⟩
theorem lk_L_80 : zLv RL 80 yX9_rows := ⟨(zg_in 1015 (by decide +kernel) rfl), (zg_in 1016 (by decide +kernel) rfl), (Or.inl (zg_in 1014 (by decide +kernel) rfl))⟩
theorem lk_X9_210 : zLs RX9 210 yX9_power := ⟨(zg_in 1019 (by decide +kernel) rfl), (Or.inl (zg_in 1018 (by decide +kernel) rfl))⟩
theorem lk_L_84 : zLv RL 84 yX9_saved := ⟨(zg_in 1022 (by decide +kernel) rfl), (zg_in 1023 (by decide +kernel) rfl), (Or.inl (zg_in 1021 (by decide +kernel) rfl))⟩
theorem lk_L_88 : zLv RL 88 yX9_quiet := ⟨(zg_in 1026 (by decide +kernel) rfl), (zg_in 1027 (by decide +kernel) rfl), (Or.inl (zg_in 1025 (by decide +kernel) rfl))⟩
theorem lk_X9_214 : zLv RX9 214 yX9_isQuiet := ⟨(zg_in 1031 (by decide +kernel) rfl), (zg_in 39 (by decide +kernel) rfl), (Or.inl (zg_in 1029 (by decide +kernel) rfl))⟩
theorem lk_L_95 : zLv RL 95 yX9_judge := ⟨(zg_in 1034 (by decide +kernel) rfl), (zg_in 1035 (by decide +kernel) rfl), (Or.inl (zg_in 1033 (by decide +kernel) rfl))⟩
theorem lk_X9_221 : zLs RX9 221 yX9_longPower := ⟨(zg_in 1040 (by decide +kernel) rfl), (Or.inl (zg_in 1039 (by decide +kernel) rfl))⟩
theorem lk_X9_225 : zLv RX9 225 yX9_does := ⟨(zg_in 1044 (by decide +kernel) rfl), (zg_in 40 (by decide +kernel) rfl), (Or.inl (zg_in 1042 (by decide +kernel) rfl))⟩
theorem lk_L_100 : zLv RL 100 yX9_share := ⟨(zg_in 1047 (by decide +kernel) rfl), (zg_in 1048 (by decide +kernel) rfl), (Or.inl (zg_in 1046 (by decide +kernel) rfl))⟩
theorem lk_X9_231 : zLs RX9 231 yX9_ways := ⟨(zg_in 1051 (by decide +kernel) rfl), (Or.inl (zg_in 1050 (by decide +kernel) rfl))⟩
theorem lk_X9_234 : zLs RX9 234 yX9_fraction := ⟨(zg_in 1054 (by decide +kernel) rfl), (Or.inl (zg_in 1053 (by decide +kernel) rfl))⟩
theorem lk_X9_228 : zLs RX9 228 yX9_divisor := ⟨(zg_in 1057 (by decide +kernel) rfl), (Or.inl (zg_in 1056 (by decide +kernel) rfl))⟩
theorem lk_L_104 : zLv RL 104 yX9_tell := ⟨(zg_in 1060 (by decide +kernel) rfl), (zg_in 1061 (by decide +kernel) rfl), (Or.inl (zg_in 1059 (by decide +kernel) rfl))⟩
theorem lk_L_108 : zLv RL 108 yX9_untell := ⟨(zg_in 1064 (by decide +kernel) rfl), (zg_in 1065 (by decide +kernel) rfl), (Or.inl (zg_in 1063 (by decide +kernel) rfl))⟩
theorem lk_L_112 : zLv RL 112 yX9_may := ⟨(zg_in 1068 (by decide +kernel) rfl), (zg_in 1069 (by decide +kernel) rfl), (Or.inl (zg_in 1067 (by decide +kernel) rfl))⟩
theorem lk_L_117 : zLv RL 117 yX9_rests := ⟨(zg_in 1072 (by decide +kernel) rfl), (zg_in 1073 (by decide +kernel) rfl), (Or.inl (zg_in 1071 (by decide +kernel) rfl))⟩
theorem lk_X9_244 : zLv RX9 244 yX9_layGains := ⟨(zg_in 1077 (by decide +kernel) rfl), (zg_in 41 (by decide +kernel) rfl), (Or.inl (zg_in 1075 (by decide +kernel) rfl))⟩
theorem lk_L_122 : zLv RL 122 yX9_hawks := ⟨(zg_in 1080 (by decide +kernel) rfl), (zg_in 1081 (by decide +kernel) rfl), (Or.inl (zg_in 1079 (by decide +kernel) rfl))⟩
theorem lk_L_127 : zLv RL 127 yX9_seed := ⟨(zg_in 1086 (by decide +kernel) rfl), (zg_in 1087 (by decide +kernel) rfl), (Or.inl (zg_in 1085 (by decide +kernel) rfl))⟩
theorem lk_L_131 : zLv RL 131 yX9_years := ⟨(zg_in 1090 (by decide +kernel) rfl), (zg_in 1091 (by decide +kernel) rfl), (Or.inl (zg_in 1089 (by decide +kernel) rfl))⟩
theorem lk_L_135 : zLv RL 135 yX9_keep := ⟨(zg_in 1098 (by decide +kernel) rfl), (zg_in 1099 (by decide +kernel) rfl), (Or.inl (zg_in 1097 (by decide +kernel) rfl))⟩
theorem lk_L_139 : zLv RL 139 yX9_again := ⟨(zg_in 1102 (by decide +kernel) rfl), (zg_in 1103 (by decide +kernel) rfl), (Or.inl (zg_in 1101 (by decide +kernel) rfl))⟩
theorem kc_J6_265 : Cond.constant RJ6 265 (1431655765 : Int32) ∈ lw_g := (zg_in 381 (by decide +kernel) rfl)
theorem kc_J6_266 : Cond.constant RJ6 266 (858993459 : Int32) ∈ lw_g := (zg_in 382 (by decide +kernel) rfl)
theorem kc_J6_267 : Cond.constant RJ6 267 (252645135 : Int32) ∈ lw_g := (zg_in 383 (by decide +kernel) rfl)
theorem kc_X2_106 : Cond.constantLong RX2 106 (10000 : Int64) ∈ lw_g := (zg_in 595 (by decide +kernel) rfl)
theorem kc_X2_151 : Cond.constantLong RX2 151 (6364136223846793005 : Int64) ∈ lw_g := (zg_in 711 (by decide +kernel) rfl)
theorem kc_X2_153 : Cond.constantLong RX2 153 (1442695040888963407 : Int64) ∈ lw_g := (zg_in 712 (by decide +kernel) rfl)
theorem kc_X2_155 : Cond.constantLong RX2 155 (24 : Int64) ∈ lw_g := (zg_in 713 (by decide +kernel) rfl)
theorem kc_X9_73 : Cond.constantLong RX9 73 (255 : Int64) ∈ lw_g := (zg_in 841 (by decide +kernel) rfl)
theorem kc_X9_171 : Cond.constantLong RX9 171 (11 : Int64) ∈ lw_g := (zg_in 931 (by decide +kernel) rfl)
theorem kc_X9_180 : Cond.constantLong RX9 180 (9 : Int64) ∈ lw_g := (zg_in 975 (by decide +kernel) rfl)
theorem kc_X9_185 : Cond.constantLong RX9 185 (2 : Int64) ∈ lw_g := (zg_in 983 (by decide +kernel) rfl)
theorem kc_X9_187 : Cond.constantLong RX9 187 (20 : Int64) ∈ lw_g := (zg_in 992 (by decide +kernel) rfl)
theorem kc_X9_189 : Cond.constantLong RX9 189 (3 : Int64) ∈ lw_g := (zg_in 993 (by decide +kernel) rfl)
theorem kc_X9_217 : Cond.constantLong RX9 217 (4 : Int64) ∈ lw_g := (zg_in 1037 (by decide +kernel) rfl)
theorem kc_X9_219 : Cond.constantLong RX9 219 (10000 : Int64) ∈ lw_g := (zg_in 1038 (by decide +kernel) rfl)
theorem kc_X9_254 : Cond.constantLong RX9 254 (6 : Int64) ∈ lw_g := (zg_in 1083 (by decide +kernel) rfl)
theorem kc_X9_256 : Cond.constantLong RX9 256 (10 : Int64) ∈ lw_g := (zg_in 1084 (by decide +kernel) rfl)
theorem kc_X9_262 : Cond.constantLong RX9 262 (30 : Int64) ∈ lw_g := (zg_in 1093 (by decide +kernel) rfl)
theorem kc_X9_264 : Cond.constantLong RX9 264 (6364136223846793005 : Int64) ∈ lw_g := (zg_in 1094 (by decide +kernel) rfl)
theorem kc_X9_266 : Cond.constantLong RX9 266 (1442695040888963407 : Int64) ∈ lw_g := (zg_in 1095 (by decide +kernel) rfl)
theorem kc_X9_268 : Cond.constantLong RX9 268 (24 : Int64) ∈ lw_g := (zg_in 1096 (by decide +kernel) rfl)
theorem kc_L_89 : Cond.constantLong RL 89 (4294967295 : Int64) ∈ lw_g := (zg_in 1105 (by decide +kernel) rfl)
