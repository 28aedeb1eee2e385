section SW
variable {X : XxT} {own : String} {dd : Nat} {lo : List (Nat × Value)} {st : List Value} {h : HpT}
theorem sw_ne {x : Int32} {n : Nat} (e : ¬ x = nI n) (hn : n < 2147483648) : x.toInt ≠ (n : Int) := fun q => e (Int32.toInt_inj.mp (by rw [q, nI_toInt hn]))
theorem sw_X4_of_16 (F : FxT X cX4_of own dd) {x : Int32} (k0 : x = 0 → rn X 52 lo st h) (k1 : x = 1 → rn X 62 lo st h) (k2 : x = 2 → rn X 72 lo st h) (k3 : x = 3 → rn X 82 lo st h) (k4 : x = 4 → rn X 92 lo st h) (ko : ¬ x = 0 → ¬ x = 1 → ¬ x = 2 → ¬ x = 3 → ¬ x = 4 → rn X 102 lo st h) : rn X 16 lo (.int x :: st) h := by
  by_cases e0 : x = 0
  · subst e0; exact rn_tableIn (np := 52) F dX4_of_16 (by decide) (by decide) rfl rfl (k0 rfl)
  by_cases e1 : x = 1
  · subst e1; exact rn_tableIn (np := 62) F dX4_of_16 (by decide) (by decide) rfl rfl (k1 rfl)
  by_cases e2 : x = 2
  · subst e2; exact rn_tableIn (np := 72) F dX4_of_16 (by decide) (by decide) rfl rfl (k2 rfl)
  by_cases e3 : x = 3
  · subst e3; exact rn_tableIn (np := 82) F dX4_of_16 (by decide) (by decide) rfl rfl (k3 rfl)
  by_cases e4 : x = 4
  · subst e4; exact rn_tableIn (np := 92) F dX4_of_16 (by decide) (by decide) rfl rfl (k4 rfl)
  have n0 := sw_ne (n := 0) e0 (by decide)
  have n1 := sw_ne (n := 1) e1 (by decide)
  have n2 := sw_ne (n := 2) e2 (by decide)
  have n3 := sw_ne (n := 3) e3 (by decide)
  have n4 := sw_ne (n := 4) e4 (by decide)
  exact rn_tableOut (np := 102) F dX4_of_16 (by omega) rfl (ko e0 e1 e2 e3 e4)
theorem sw_X4_good_1 (F : FxT X cX4_good own dd) {x : Int32} (k0 : x = 0 → rn X 28 lo st h) (k1 : x = 1 → rn X 44 lo st h) (ko : ¬ x = 0 → ¬ x = 1 → rn X 60 lo st h) : rn X 1 lo (.int x :: st) h := by
  by_cases e0 : x = 0
  · subst e0; exact rn_lookup (np := 28) F dX4_good_1 rfl rfl rfl (k0 rfl)
  by_cases e1 : x = 1
  · subst e1; exact rn_lookup (np := 44) F dX4_good_1 rfl rfl rfl (k1 rfl)
  have n0 := sw_ne (n := 0) e0 (by decide)
  have n1 := sw_ne (n := 1) e1 (by decide)
  exact rn_lookup (np := 60) (off := 59) F dX4_good_1 rfl (by simp [Op.lookupswitch.offset]; omega) rfl (ko e0 e1)
theorem sw_X4_worst_1 (F : FxT X cX4_worst own dd) {x : Int32} (k0 : x = 0 → rn X 28 lo st h) (k1 : x = 1 → rn X 36 lo st h) (ko : ¬ x = 0 → ¬ x = 1 → rn X 44 lo st h) : rn X 1 lo (.int x :: st) h := by
  by_cases e0 : x = 0
  · subst e0; exact rn_lookup (np := 28) F dX4_worst_1 rfl rfl rfl (k0 rfl)
  by_cases e1 : x = 1
  · subst e1; exact rn_lookup (np := 36) F dX4_worst_1 rfl rfl rfl (k1 rfl)
  have n0 := sw_ne (n := 0) e0 (by decide)
  have n1 := sw_ne (n := 1) e1 (by decide)
  exact rn_lookup (np := 44) (off := 43) F dX4_worst_1 rfl (by simp [Op.lookupswitch.offset]; omega) rfl (ko e0 e1)
theorem sw_X4_best_39 (F : FxT X cX4_best own dd) {x : Int32} (k0 : x = 0 → rn X 64 lo st h) (k1 : x = 1 → rn X 74 lo st h) (ko : ¬ x = 0 → ¬ x = 1 → rn X 76 lo st h) : rn X 39 lo (.int x :: st) h := by
  by_cases e0 : x = 0
  · subst e0; exact rn_lookup (np := 64) F dX4_best_39 rfl rfl rfl (k0 rfl)
  by_cases e1 : x = 1
  · subst e1; exact rn_lookup (np := 74) F dX4_best_39 rfl rfl rfl (k1 rfl)
  have n0 := sw_ne (n := 0) e0 (by decide)
  have n1 := sw_ne (n := 1) e1 (by decide)
  exact rn_lookup (np := 76) (off := 37) F dX4_best_39 rfl (by simp [Op.lookupswitch.offset]; omega) rfl (ko e0 e1)
theorem sw_X4_next_41 (F : FxT X cX4_next own dd) {x : Int32} (k0 : x = 0 → rn X 68 lo st h) (k1 : x = 1 → rn X 76 lo st h) (k2 : x = 2 → rn X 84 lo st h) (ko : ¬ x = 0 → ¬ x = 1 → ¬ x = 2 → rn X 92 lo st h) : rn X 41 lo (.int x :: st) h := by
  by_cases e0 : x = 0
  · subst e0; exact rn_tableIn (np := 68) F dX4_next_41 (by decide) (by decide) rfl rfl (k0 rfl)
  by_cases e1 : x = 1
  · subst e1; exact rn_tableIn (np := 76) F dX4_next_41 (by decide) (by decide) rfl rfl (k1 rfl)
  by_cases e2 : x = 2
  · subst e2; exact rn_tableIn (np := 84) F dX4_next_41 (by decide) (by decide) rfl rfl (k2 rfl)
  have n0 := sw_ne (n := 0) e0 (by decide)
  have n1 := sw_ne (n := 1) e1 (by decide)
  have n2 := sw_ne (n := 2) e2 (by decide)
  exact rn_tableOut (np := 92) F dX4_next_41 (by omega) rfl (ko e0 e1 e2)
theorem sw_X4_toldOf_1 (F : FxT X cX4_toldOf own dd) {x : Int32} (k0 : x = 0 → rn X 44 lo st h) (k1 : x = 1 → rn X 49 lo st h) (k2 : x = 2 → rn X 54 lo st h) (k3 : x = 3 → rn X 59 lo st h) (k4 : x = 4 → rn X 67 lo st h) (k5 : x = 5 → rn X 75 lo st h) (k6 : x = 6 → rn X 83 lo st h) (ko : ¬ x = 0 → ¬ x = 1 → ¬ x = 2 → ¬ x = 3 → ¬ x = 4 → ¬ x = 5 → ¬ x = 6 → rn X 91 lo st h) : rn X 1 lo (.int x :: st) h := by
  by_cases e0 : x = 0
  · subst e0; exact rn_tableIn (np := 44) F dX4_toldOf_1 (by decide) (by decide) rfl rfl (k0 rfl)
  by_cases e1 : x = 1
  · subst e1; exact rn_tableIn (np := 49) F dX4_toldOf_1 (by decide) (by decide) rfl rfl (k1 rfl)
  by_cases e2 : x = 2
  · subst e2; exact rn_tableIn (np := 54) F dX4_toldOf_1 (by decide) (by decide) rfl rfl (k2 rfl)
  by_cases e3 : x = 3
  · subst e3; exact rn_tableIn (np := 59) F dX4_toldOf_1 (by decide) (by decide) rfl rfl (k3 rfl)
  by_cases e4 : x = 4
  · subst e4; exact rn_tableIn (np := 67) F dX4_toldOf_1 (by decide) (by decide) rfl rfl (k4 rfl)
  by_cases e5 : x = 5
  · subst e5; exact rn_tableIn (np := 75) F dX4_toldOf_1 (by decide) (by decide) rfl rfl (k5 rfl)
  by_cases e6 : x = 6
  · subst e6; exact rn_tableIn (np := 83) F dX4_toldOf_1 (by decide) (by decide) rfl rfl (k6 rfl)
  have n0 := sw_ne (n := 0) e0 (by decide)
  have n1 := sw_ne (n := 1) e1 (by decide)
  have n2 := sw_ne (n := 2) e2 (by decide)
  have n3 := sw_ne (n := 3) e3 (by decide)
  have n4 := sw_ne (n := 4) e4 (by decide)
  have n5 := sw_ne (n := 5) e5 (by decide)
  have n6 := sw_ne (n := 6) e6 (by decide)
  exact rn_tableOut (np := 91) F dX4_toldOf_1 (by omega) rfl (ko e0 e1 e2 e3 e4 e5 e6)
theorem sw_X4_isSetting_1 (F : FxT X cX4_isSetting own dd) {x : Int32} (k0 : x = 0 → rn X 28 lo st h) (k1 : x = 1 → rn X 33 lo st h) (k2 : x = 2 → rn X 38 lo st h) (ko : ¬ x = 0 → ¬ x = 1 → ¬ x = 2 → rn X 45 lo st h) : rn X 1 lo (.int x :: st) h := by
  by_cases e0 : x = 0
  · subst e0; exact rn_tableIn (np := 28) F dX4_isSetting_1 (by decide) (by decide) rfl rfl (k0 rfl)
  by_cases e1 : x = 1
  · subst e1; exact rn_tableIn (np := 33) F dX4_isSetting_1 (by decide) (by decide) rfl rfl (k1 rfl)
  by_cases e2 : x = 2
  · subst e2; exact rn_tableIn (np := 38) F dX4_isSetting_1 (by decide) (by decide) rfl rfl (k2 rfl)
  have n0 := sw_ne (n := 0) e0 (by decide)
  have n1 := sw_ne (n := 1) e1 (by decide)
  have n2 := sw_ne (n := 2) e2 (by decide)
  exact rn_tableOut (np := 45) F dX4_isSetting_1 (by omega) rfl (ko e0 e1 e2)
theorem sw_X5_takesOf_30 (F : FxT X cX5_takesOf own dd) {x : Int32} (k0 : x = 0 → rn X 64 lo st h) (k1 : x = 1 → rn X 66 lo st h) (k2 : x = 2 → rn X 79 lo st h) (k3 : x = 3 → rn X 90 lo st h) (k4 : x = 4 → rn X 116 lo st h) (ko : ¬ x = 0 → ¬ x = 1 → ¬ x = 2 → ¬ x = 3 → ¬ x = 4 → rn X 134 lo st h) : rn X 30 lo (.int x :: st) h := by
  by_cases e0 : x = 0
  · subst e0; exact rn_tableIn (np := 64) F dX5_takesOf_30 (by decide) (by decide) rfl rfl (k0 rfl)
  by_cases e1 : x = 1
  · subst e1; exact rn_tableIn (np := 66) F dX5_takesOf_30 (by decide) (by decide) rfl rfl (k1 rfl)
  by_cases e2 : x = 2
  · subst e2; exact rn_tableIn (np := 79) F dX5_takesOf_30 (by decide) (by decide) rfl rfl (k2 rfl)
  by_cases e3 : x = 3
  · subst e3; exact rn_tableIn (np := 90) F dX5_takesOf_30 (by decide) (by decide) rfl rfl (k3 rfl)
  by_cases e4 : x = 4
  · subst e4; exact rn_tableIn (np := 116) F dX5_takesOf_30 (by decide) (by decide) rfl rfl (k4 rfl)
  have n0 := sw_ne (n := 0) e0 (by decide)
  have n1 := sw_ne (n := 1) e1 (by decide)
  have n2 := sw_ne (n := 2) e2 (by decide)
  have n3 := sw_ne (n := 3) e3 (by decide)
  have n4 := sw_ne (n := 4) e4 (by decide)
  exact rn_tableOut (np := 134) F dX5_takesOf_30 (by omega) rfl (ko e0 e1 e2 e3 e4)
theorem sw_X5_toldOf_3 (F : FxT X cX5_toldOf own dd) {x : Int32} (k0 : x = 0 → rn X 44 lo st h) (k1 : x = 1 → rn X 44 lo st h) (k2 : x = 2 → rn X 44 lo st h) (k3 : x = 3 → rn X 51 lo st h) (k4 : x = 4 → rn X 56 lo st h) (k5 : x = 5 → rn X 61 lo st h) (k6 : x = 6 → rn X 66 lo st h) (ko : ¬ x = 0 → ¬ x = 1 → ¬ x = 2 → ¬ x = 3 → ¬ x = 4 → ¬ x = 5 → ¬ x = 6 → rn X 71 lo st h) : rn X 3 lo (.int x :: st) h := by
  by_cases e0 : x = 0
  · subst e0; exact rn_tableIn (np := 44) F dX5_toldOf_3 (by decide) (by decide) rfl rfl (k0 rfl)
  by_cases e1 : x = 1
  · subst e1; exact rn_tableIn (np := 44) F dX5_toldOf_3 (by decide) (by decide) rfl rfl (k1 rfl)
  by_cases e2 : x = 2
  · subst e2; exact rn_tableIn (np := 44) F dX5_toldOf_3 (by decide) (by decide) rfl rfl (k2 rfl)
  by_cases e3 : x = 3
  · subst e3; exact rn_tableIn (np := 51) F dX5_toldOf_3 (by decide) (by decide) rfl rfl (k3 rfl)
  by_cases e4 : x = 4
  · subst e4; exact rn_tableIn (np := 56) F dX5_toldOf_3 (by decide) (by decide) rfl rfl (k4 rfl)
  by_cases e5 : x = 5
  · subst e5; exact rn_tableIn (np := 61) F dX5_toldOf_3 (by decide) (by decide) rfl rfl (k5 rfl)
  by_cases e6 : x = 6
  · subst e6; exact rn_tableIn (np := 66) F dX5_toldOf_3 (by decide) (by decide) rfl rfl (k6 rfl)
  have n0 := sw_ne (n := 0) e0 (by decide)
  have n1 := sw_ne (n := 1) e1 (by decide)
  have n2 := sw_ne (n := 2) e2 (by decide)
  have n3 := sw_ne (n := 3) e3 (by decide)
  have n4 := sw_ne (n := 4) e4 (by decide)
  have n5 := sw_ne (n := 5) e5 (by decide)
  have n6 := sw_ne (n := 6) e6 (by decide)
  exact rn_tableOut (np := 71) F dX5_toldOf_3 (by omega) rfl (ko e0 e1 e2 e3 e4 e5 e6)
theorem sw_L_law_32 (F : FxT X cL_law own dd) {x : Int32} (k0 : x = 0 → rn X 164 lo st h) (k1 : x = 1 → rn X 207 lo st h) (k2 : x = 2 → rn X 250 lo st h) (k3 : x = 3 → rn X 283 lo st h) (k4 : x = 4 → rn X 306 lo st h) (k5 : x = 5 → rn X 339 lo st h) (k6 : x = 6 → rn X 352 lo st h) (k7 : x = 7 → rn X 365 lo st h) (k8 : x = 8 → rn X 398 lo st h) (k9 : x = 9 → rn X 431 lo st h) (k10 : x = 10 → rn X 464 lo st h) (k11 : x = 11 → rn X 497 lo st h) (k12 : x = 12 → rn X 520 lo st h) (k13 : x = 13 → rn X 533 lo st h) (k14 : x = 14 → rn X 556 lo st h) (k15 : x = 15 → rn X 579 lo st h) (k16 : x = 16 → rn X 612 lo st h) (k17 : x = 17 → rn X 645 lo st h) (k18 : x = 18 → rn X 658 lo st h) (k19 : x = 19 → rn X 671 lo st h) (k20 : x = 20 → rn X 684 lo st h) (k21 : x = 21 → rn X 697 lo st h) (k22 : x = 22 → rn X 720 lo st h) (k23 : x = 23 → rn X 743 lo st h) (k24 : x = 24 → rn X 766 lo st h) (k25 : x = 25 → rn X 789 lo st h) (k26 : x = 26 → rn X 802 lo st h) (k27 : x = 27 → rn X 825 lo st h) (k28 : x = 28 → rn X 848 lo st h) (ko : ¬ x = 0 → ¬ x = 1 → ¬ x = 2 → ¬ x = 3 → ¬ x = 4 → ¬ x = 5 → ¬ x = 6 → ¬ x = 7 → ¬ x = 8 → ¬ x = 9 → ¬ x = 10 → ¬ x = 11 → ¬ x = 12 → ¬ x = 13 → ¬ x = 14 → ¬ x = 15 → ¬ x = 16 → ¬ x = 17 → ¬ x = 18 → ¬ x = 19 → ¬ x = 20 → ¬ x = 21 → ¬ x = 22 → ¬ x = 23 → ¬ x = 24 → ¬ x = 25 → ¬ x = 26 → ¬ x = 27 → ¬ x = 28 → rn X 862 lo st h) : rn X 32 lo (.int x :: st) h := by
  by_cases e0 : x = 0
  · subst e0; exact rn_tableIn (np := 164) F dL_law_32 (by decide) (by decide) rfl rfl (k0 rfl)
  by_cases e1 : x = 1
  · subst e1; exact rn_tableIn (np := 207) F dL_law_32 (by decide) (by decide) rfl rfl (k1 rfl)
  by_cases e2 : x = 2
  · subst e2; exact rn_tableIn (np := 250) F dL_law_32 (by decide) (by decide) rfl rfl (k2 rfl)
  by_cases e3 : x = 3
  · subst e3; exact rn_tableIn (np := 283) F dL_law_32 (by decide) (by decide) rfl rfl (k3 rfl)
  by_cases e4 : x = 4
  · subst e4; exact rn_tableIn (np := 306) F dL_law_32 (by decide) (by decide) rfl rfl (k4 rfl)
  by_cases e5 : x = 5
  · subst e5; exact rn_tableIn (np := 339) F dL_law_32 (by decide) (by decide) rfl rfl (k5 rfl)
  by_cases e6 : x = 6
  · subst e6; exact rn_tableIn (np := 352) F dL_law_32 (by decide) (by decide) rfl rfl (k6 rfl)
  by_cases e7 : x = 7
  · subst e7; exact rn_tableIn (np := 365) F dL_law_32 (by decide) (by decide) rfl rfl (k7 rfl)
  by_cases e8 : x = 8
  · subst e8; exact rn_tableIn (np := 398) F dL_law_32 (by decide) (by decide) rfl rfl (k8 rfl)
  by_cases e9 : x = 9
  · subst e9; exact rn_tableIn (np := 431) F dL_law_32 (by decide) (by decide) rfl rfl (k9 rfl)
  by_cases e10 : x = 10
  · subst e10; exact rn_tableIn (np := 464) F dL_law_32 (by decide) (by decide) rfl rfl (k10 rfl)
  by_cases e11 : x = 11
  · subst e11; exact rn_tableIn (np := 497) F dL_law_32 (by decide) (by decide) rfl rfl (k11 rfl)
  by_cases e12 : x = 12
  · subst e12; exact rn_tableIn (np := 520) F dL_law_32 (by decide) (by decide) rfl rfl (k12 rfl)
  by_cases e13 : x = 13
  · subst e13; exact rn_tableIn (np := 533) F dL_law_32 (by decide) (by decide) rfl rfl (k13 rfl)
  by_cases e14 : x = 14
  · subst e14; exact rn_tableIn (np := 556) F dL_law_32 (by decide) (by decide) rfl rfl (k14 rfl)
  by_cases e15 : x = 15
  · subst e15; exact rn_tableIn (np := 579) F dL_law_32 (by decide) (by decide) rfl rfl (k15 rfl)
  by_cases e16 : x = 16
  · subst e16; exact rn_tableIn (np := 612) F dL_law_32 (by decide) (by decide) rfl rfl (k16 rfl)
  by_cases e17 : x = 17
  · subst e17; exact rn_tableIn (np := 645) F dL_law_32 (by decide) (by decide) rfl rfl (k17 rfl)
  by_cases e18 : x = 18
  · subst e18; exact rn_tableIn (np := 658) F dL_law_32 (by decide) (by decide) rfl rfl (k18 rfl)
  by_cases e19 : x = 19
  · subst e19; exact rn_tableIn (np := 671) F dL_law_32 (by decide) (by decide) rfl rfl (k19 rfl)
  by_cases e20 : x = 20
  · subst e20; exact rn_tableIn (np := 684) F dL_law_32 (by decide) (by decide) rfl rfl (k20 rfl)
  by_cases e21 : x = 21
  · subst e21; exact rn_tableIn (np := 697) F dL_law_32 (by decide) (by decide) rfl rfl (k21 rfl)
  by_cases e22 : x = 22
  · subst e22; exact rn_tableIn (np := 720) F dL_law_32 (by decide) (by decide) rfl rfl (k22 rfl)
  by_cases e23 : x = 23
  · subst e23; exact rn_tableIn (np := 743) F dL_law_32 (by decide) (by decide) rfl rfl (k23 rfl)
  by_cases e24 : x = 24
  · subst e24; exact rn_tableIn (np := 766) F dL_law_32 (by decide) (by decide) rfl rfl (k24 rfl)
  by_cases e25 : x = 25
  · subst e25; exact rn_tableIn (np := 789) F dL_law_32 (by decide) (by decide) rfl rfl (k25 rfl)
  by_cases e26 : x = 26
  · subst e26; exact rn_tableIn (np := 802) F dL_law_32 (by decide) (by decide) rfl rfl (k26 rfl)
  by_cases e27 : x = 27
  · subst e27; exact rn_tableIn (np := 825) F dL_law_32 (by decide) (by decide) rfl rfl (k27 rfl)
  by_cases e28 : x = 28
  · subst e28; exact rn_tableIn (np := 848) F dL_law_32 (by decide) (by decide) rfl rfl (k28 rfl)
  have n0 := sw_ne (n := 0) e0 (by decide)
  have n1 := sw_ne (n := 1) e1 (by decide)
  have n2 := sw_ne (n := 2) e2 (by decide)
  have n3 := sw_ne (n := 3) e3 (by decide)
  have n4 := sw_ne (n := 4) e4 (by decide)
  have n5 := sw_ne (n := 5) e5 (by decide)
  have n6 := sw_ne (n := 6) e6 (by decide)
  have n7 := sw_ne (n := 7) e7 (by decide)
  have n8 := sw_ne (n := 8) e8 (by decide)
  have n9 := sw_ne (n := 9) e9 (by decide)
  have n10 := sw_ne (n := 10) e10 (by decide)
  have n11 := sw_ne (n := 11) e11 (by decide)
  have n12 := sw_ne (n := 12) e12 (by decide)
  have n13 := sw_ne (n := 13) e13 (by decide)
  have n14 := sw_ne (n := 14) e14 (by decide)
  have n15 := sw_ne (n := 15) e15 (by decide)
  have n16 := sw_ne (n := 16) e16 (by decide)
  have n17 := sw_ne (n := 17) e17 (by decide)
  have n18 := sw_ne (n := 18) e18 (by decide)
  have n19 := sw_ne (n := 19) e19 (by decide)
  have n20 := sw_ne (n := 20) e20 (by decide)
  have n21 := sw_ne (n := 21) e21 (by decide)
  have n22 := sw_ne (n := 22) e22 (by decide)
  have n23 := sw_ne (n := 23) e23 (by decide)
  have n24 := sw_ne (n := 24) e24 (by decide)
  have n25 := sw_ne (n := 25) e25 (by decide)
  have n26 := sw_ne (n := 26) e26 (by decide)
  have n27 := sw_ne (n := 27) e27 (by decide)
  have n28 := sw_ne (n := 28) e28 (by decide)
  exact rn_tableOut (np := 862) F dL_law_32 (by omega) rfl (ko e0 e1 e2 e3 e4 e5 e6 e7 e8 e9 e10 e11 e12 e13 e14 e15 e16 e17 e18 e19 e20 e21 e22 e23 e24 e25 e26 e27 e28)
end SW
