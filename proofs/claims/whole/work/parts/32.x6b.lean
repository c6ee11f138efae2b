set_option maxHeartbeats 4000000 in
theorem p_weeks {g : GG} {M : Mem} {s : ST} (hC : Cls M s) (hO : SOK s) (n : Int) (hn : -2147483648 ≤ n ∧ n ≤ 2147483647) : CI g tX6_weeks 6 [rv g 0, iv n] M (PC M (aWeeks s n) (nWeeks s n)) := by
  refine Con.of [some (rv g 0), some (iv n)] (by decide +kernel) rfl (Nat.le_of_ble_eq_true rfl) ?_
  obtain ⟨hV, ⟨hk0, hk1, hi0, hi1⟩, ⟨hT1, hT2⟩, ⟨hS1, hS2⟩, hZ, hN, hF⟩ := id hC
  obtain ⟨oV, oW, oI0, oI1, oT, oTb, oS, oSb, oZ⟩ := id hO
  obtain ⟨e6, e7, e8, e4, e5⟩ := id hV
  have o1 := oV.1
  have o2 := oV.2.1
  have o3 := oV.2.2.1
  refine x_iload_n 1 1 dX6_weeks_0 rfl rfl (by decide) rfl ?_
  refine x_bipush 3 dX6_weeks_1 rfl (by decide) ?_
  refine x_sp 6 [_, _] (c_within _ _ (by omega) (by omega)) mX6_within kX6_70 dX6_weeks_3 rfl rfl rfl (Nat.le_of_ble_eq_true rfl) (by decide) ?_
  refine x_ifne_b 11 9 dX6_weeks_6 (by decide) rfl (fun h6 => ?_) (fun h6 => ?_)
  · refine x_aload_n 12 0 dX6_weeks_11 rfl rfl (by decide) rfl ?_
    refine x_getR 15 2 4 dX6_weeks_12 rfl fX6_24 rfl rfl rfl ?_
    refine x_getI 18 8 8 rfl dX6_weeks_15 rfl fX6_107 rfl rfl (fun g15 => ?_)
    refine x_iload_n 19 1 dX6_weeks_18 rfl rfl (by decide) rfl ?_
    refine x_iadd 20 dX6_weeks_19 rfl ?_
    refine x_sipush 23 dX6_weeks_20 rfl (by decide) ?_
    refine x_icmp_lt 31 26 dX6_weeks_23 (by decide) rfl (by omega) (fun h23 => ?_) (fun h23 => ?_)
    · refine x_aload_n 32 0 dX6_weeks_31 rfl rfl (by decide) rfl ?_
      refine x_getR 35 2 4 dX6_weeks_32 rfl fX6_24 rfl rfl rfl ?_
      refine x_iload_n 36 1 dX6_weeks_35 rfl rfl (by decide) rfl ?_
      refine x_vi 39 [_] (by have z := c_runWeeks (g := g) (o := 4) (Or.inl rfl) hV oV n.toNat (by omega) (by omega); rw [Int.toNat_of_nonneg (show 0 ≤ n by omega)] at z; exact z) mX1_runWeeks kX6_166 dX6_weeks_36 rfl rfl ⟨by decide, rfl⟩ rfl rfl (Nat.le_of_ble_eq_true rfl) (by decide) (fun r3 M3 q3 => ?_)
      obtain ⟨rfl, hR3, hF3⟩ := q3
      refine x_iret dX6_weeks_39 rfl ⟨rfl, Nat.le_refl _⟩ (qi_i ?_)
      first
        | (have y1 : aWeeks s n = -3 := by (unfold aWeeks; rw [if_pos (by omega), if_pos (by omega)])
           have y2 : nWeeks s n = s := by (unfold nWeeks; rw [if_pos (by omega), if_pos (by omega)])
           rw [y1, y2]; exact PC.same hC rfl)
        | (have y1 : aWeeks s n = goL (sV s) n.toNat := by (unfold aWeeks; rw [if_pos (by omega), if_neg (by omega)])
           have y2 : nWeeks s n = uV s (goV (sV s) n.toNat) := by (unfold nWeeks; rw [if_pos (by omega), if_neg (by omega)])
           rw [y1, y2]; exact PC.lg hC rfl hR3 hF3)
    · refine x_bipush 28 dX6_weeks_26 rfl (by decide) ?_
      refine x_goto 39 dX6_weeks_28 (by decide) ?_
      refine x_iret dX6_weeks_39 rfl ⟨rfl, Nat.le_refl _⟩ (qi_i ?_)
      first
        | (have y1 : aWeeks s n = -3 := by (unfold aWeeks; rw [if_pos (by omega), if_pos (by omega)])
           have y2 : nWeeks s n = s := by (unfold nWeeks; rw [if_pos (by omega), if_pos (by omega)])
           rw [y1, y2]; exact PC.same hC rfl)
        | (have y1 : aWeeks s n = goL (sV s) n.toNat := by (unfold aWeeks; rw [if_pos (by omega), if_neg (by omega)])
           have y2 : nWeeks s n = uV s (goV (sV s) n.toNat) := by (unfold nWeeks; rw [if_pos (by omega), if_neg (by omega)])
           rw [y1, y2]; exact PC.lg hC rfl hR3 hF3)
  · refine x_iconst 10 dX6_weeks_9 rfl ?_
    refine x_iret dX6_weeks_10 rfl ⟨rfl, Nat.le_refl _⟩ (qi_i ?_)
    have y1 : aWeeks s n = -1 := by (unfold aWeeks; rw [if_neg (by omega)])
    have y2 : nWeeks s n = s := by (unfold nWeeks; rw [if_neg (by omega)])
    rw [y1, y2]; exact PC.same hC rfl

set_option maxHeartbeats 4000000 in
theorem p_runs {g : GG} {M : Mem} {s : ST} (hC : Cls M s) (hO : SOK s) (n w : Int) (hn : -2147483648 ≤ n ∧ n ≤ 2147483647) (hw : -2147483648 ≤ w ∧ w ≤ 2147483647) : CI g tX6_runs 6 [rv g 0, iv n, iv w] M (PC M (aRuns s n w) s) := by
  refine Con.of [some (rv g 0), some (iv n), some (iv w), none] (by decide +kernel) rfl (Nat.le_of_ble_eq_true rfl) ?_
  obtain ⟨hV, ⟨hk0, hk1, hi0, hi1⟩, ⟨hT1, hT2⟩, ⟨hS1, hS2⟩, hZ, hN, hF⟩ := id hC
  obtain ⟨oV, oW, oI0, oI1, oT, oTb, oS, oSb, oZ⟩ := id hO
  obtain ⟨e6, e7, e8, e4, e5⟩ := id hV
  have o1 := oV.1
  have o2 := oV.2.1
  have o3 := oV.2.2.1
  refine x_iload_n 1 1 dX6_runs_0 rfl rfl (by decide) rfl ?_
  refine x_bipush 3 dX6_runs_1 rfl (by decide) ?_
  refine x_sp 6 [_, _] (c_within _ _ (by omega) (by omega)) mX6_within kX6_70 dX6_runs_3 rfl rfl rfl (Nat.le_of_ble_eq_true rfl) (by decide) ?_
  refine x_ifeq_b 17 9 dX6_runs_6 (by decide) rfl (fun h6 => ?_) (fun h6 => ?_)
  · refine x_iconst 18 dX6_runs_17 rfl ?_
    refine x_iret dX6_runs_18 rfl ⟨rfl, Nat.le_refl _⟩ (qi_i ?_)
    refine PC.same hC ?_
    unfold aRuns; rw [if_neg (by omega)]
  · refine x_iload_n 10 2 dX6_runs_9 rfl rfl (by decide) rfl ?_
    refine x_iconst 11 dX6_runs_10 rfl ?_
    refine x_sp 14 [_, _] (c_within _ _ (by omega) (by omega)) mX6_within kX6_70 dX6_runs_11 rfl rfl rfl (Nat.le_of_ble_eq_true rfl) (by decide) ?_
    refine x_ifne_b 19 17 dX6_runs_14 (by decide) rfl (fun h14 => ?_) (fun h14 => ?_)
    · refine x_aload_n 20 0 dX6_runs_19 rfl rfl (by decide) rfl ?_
      refine x_getR 23 3 11 dX6_runs_20 rfl fX6_28 rfl rfl rfl ?_
      refine x_aload_n 24 0 dX6_runs_23 rfl rfl (by decide) rfl ?_
      refine x_getR 27 2 4 dX6_runs_24 rfl fX6_24 rfl rfl rfl ?_
      refine x_vv 30 [_] (c_become (o := 11) (p := 4) (Or.inr (Or.inl rfl)) (Or.inl rfl) (by decide) hV oV) mX1_become kX6_94 dX6_runs_27 rfl rfl ⟨by decide, rfl⟩ rfl rfl (Nat.le_of_ble_eq_true rfl) (by decide) (fun M2 q2 => ?_)
      obtain ⟨hR2, hF2⟩ := q2
      refine x_aload_n 31 0 dX6_runs_30 rfl rfl (by decide) rfl ?_
      refine x_getR 34 3 11 dX6_runs_31 rfl fX6_28 rfl rfl rfl ?_
      refine x_iload_n 35 1 dX6_runs_34 rfl rfl (by decide) rfl ?_
      refine x_vi 38 [_] (by have z := c_runWeeks (g := g) (o := 11) (Or.inr (Or.inl rfl)) hR2 oV n.toNat (by omega) (by omega); rw [Int.toNat_of_nonneg (show 0 ≤ n by omega)] at z; exact z) mX1_runWeeks kX6_166 dX6_runs_35 rfl rfl ⟨by decide, rfl⟩ rfl rfl (Nat.le_of_ble_eq_true rfl) (by decide) (fun r3 M3 q3 => ?_)
      obtain ⟨rfl, hR3, hF3⟩ := q3
      refine x_istore_n 39 3 _ dX6_runs_38 rfl rfl (by decide) rfl rfl ?_
      have gb := goL_bd (sV s) n.toNat
      have e37 : M3 11 7 = vf (sV s) := hR3.2.1.trans (goV_f _ _)
      refine x_iload_n 40 2 dX6_runs_39 rfl rfl (by decide) rfl ?_
      refine x_tsw 96 dX6_runs_40 (by decide) (by omega) (fun h40 => ?_) (fun c40 hl40 hh40 hx40 => ?_)
      · refine x_aload_n 97 0 dX6_runs_96 rfl rfl (by decide) rfl ?_
        refine x_getR 100 3 11 dX6_runs_97 rfl fX6_28 rfl rfl rfl ?_
        refine x_vp 103 [] (c_withLosses (o := 11) (Or.inr (Or.inl rfl)) hR3 (goV_WF oV _)) mX1_withLosses kX6_114 dX6_runs_100 rfl rfl ⟨by decide, rfl⟩ rfl rfl (Nat.le_of_ble_eq_true rfl) (by decide) ?_
        refine x_iret dX6_runs_103 rfl ⟨rfl, Nat.le_refl _⟩ (qi_i ?_)
        refine PC.trial hC ?_ (hF2.tr hF3)
        unfold aRuns; rw [if_pos (by omega), if_neg (by omega), if_neg (by omega), if_neg (by omega)]
      · rcases (show c40 = 0 ∨ c40 = 1 ∨ c40 = 2 by omega) with rfl | rfl | rfl
        · refine ⟨28, 68, rfl, by decide, ?_⟩
          refine x_iload_n 69 3 dX6_runs_68 rfl rfl (by decide) rfl ?_
          refine x_iret dX6_runs_69 rfl ⟨rfl, Nat.le_refl _⟩ (qi_i ?_)
          refine PC.trial hC ?_ (hF2.tr hF3)
          subst hx40; unfold aRuns; rw [if_pos (by omega)]; rfl
        · refine ⟨30, 70, rfl, by decide, ?_⟩
          refine x_aload_n 71 0 dX6_runs_70 rfl rfl (by decide) rfl ?_
          refine x_getR 74 3 11 dX6_runs_71 rfl fX6_28 rfl rfl rfl ?_
          refine x_getI 77 7 7 rfl dX6_runs_74 rfl fX6_104 rfl rfl (fun g74 => ?_)
          refine x_if_ne 84 80 dX6_runs_77 (by decide) rfl (by omega) (fun h77 => ?_) (fun h77 => ?_)
          · refine x_iload_n 85 1 dX6_runs_84 rfl rfl (by decide) rfl ?_
            refine x_iload_n 86 3 dX6_runs_85 rfl rfl (by decide) rfl ?_
            refine x_isub 87 dX6_runs_86 rfl ?_
            refine x_iret dX6_runs_87 rfl ⟨rfl, Nat.le_refl _⟩ (qi_i ?_)
            refine PC.trial hC ?_ (hF2.tr hF3)
            subst hx40; unfold aRuns; rw [if_pos (by omega), if_neg (by decide), if_pos rfl]
            first | rw [if_pos (by omega)] | rw [if_neg (by omega)]
          · refine x_iconst 81 dX6_runs_80 rfl ?_
            refine x_goto 87 dX6_runs_81 (by decide) ?_
            refine x_iret dX6_runs_87 rfl ⟨rfl, Nat.le_refl _⟩ (qi_i ?_)
            refine PC.trial hC ?_ (hF2.tr hF3)
            subst hx40; unfold aRuns; rw [if_pos (by omega), if_neg (by decide), if_pos rfl]
            first | rw [if_pos (by omega)] | rw [if_neg (by omega)]
        · refine ⟨48, 88, rfl, by decide, ?_⟩
          refine x_aload_n 89 0 dX6_runs_88 rfl rfl (by decide) rfl ?_
          refine x_getR 92 3 11 dX6_runs_89 rfl fX6_28 rfl rfl rfl ?_
          refine x_vp 95 [] (c_owed (o := 11) (Or.inr (Or.inl rfl)) hR3 (goV_WF oV _)) mX1_owed kX6_117 dX6_runs_92 rfl rfl ⟨by decide, rfl⟩ rfl rfl (Nat.le_of_ble_eq_true rfl) (by decide) ?_
          refine x_iret dX6_runs_95 rfl ⟨rfl, Nat.le_refl _⟩ (qi_i ?_)
          refine PC.trial hC ?_ (hF2.tr hF3)
          subst hx40; unfold aRuns; rw [if_pos (by omega)]; rfl
    · refine x_iconst 18 dX6_runs_17 rfl ?_
      refine x_iret dX6_runs_18 rfl ⟨rfl, Nat.le_refl _⟩ (qi_i ?_)
      refine PC.same hC ?_
      unfold aRuns; rw [if_neg (by omega)]

set_option maxHeartbeats 4000000 in
theorem p_ahead {g : GG} {M : Mem} {s : ST} (hC : Cls M s) (hO : SOK s) (t n w : Int) (ht : -2147483648 ≤ t ∧ t ≤ 2147483647) (hn : -2147483648 ≤ n ∧ n ≤ 2147483647) (hw : -2147483648 ≤ w ∧ w ≤ 2147483647) : CI g tX6_ahead 6 [rv g 0, iv t, iv n, iv w] M (PC M (aAhead s t n w) s) := by
  refine Con.of [some (rv g 0), some (iv t), some (iv n), some (iv w)] (by decide +kernel) rfl (Nat.le_of_ble_eq_true rfl) ?_
  obtain ⟨hV, ⟨hk0, hk1, hi0, hi1⟩, ⟨hT1, hT2⟩, ⟨hS1, hS2⟩, hZ, hN, hF⟩ := id hC
  obtain ⟨oV, oW, oI0, oI1, oT, oTb, oS, oSb, oZ⟩ := id hO
  obtain ⟨e6, e7, e8, e4, e5⟩ := id hV
  have o1 := oV.1
  have o2 := oV.2.1
  have o3 := oV.2.2.1
  refine x_aload_n 1 0 dX6_ahead_0 rfl rfl (by decide) rfl ?_
  refine x_getR 4 2 4 dX6_ahead_1 rfl fX6_24 rfl rfl rfl ?_
  refine x_iload_n 5 1 dX6_ahead_4 rfl rfl (by decide) rfl ?_
  refine x_vp 8 [_] (c_hasTown (o := 4) (Or.inl rfl) t ht) mX1_hasTown kX6_120 dX6_ahead_5 rfl rfl ⟨by decide, rfl⟩ rfl rfl (Nat.le_of_ble_eq_true rfl) (by decide) ?_
  refine x_ifeq_b 28 11 dX6_ahead_8 (by decide) rfl (fun h8 => ?_) (fun h8 => ?_)
  · refine x_iconst 29 dX6_ahead_28 rfl ?_
    refine x_iret dX6_ahead_29 rfl ⟨rfl, Nat.le_refl _⟩ (qi_i ?_)
    refine PC.same hC ?_
    unfold aAhead; rw [if_neg (by omega)]
  · refine x_iload_n 12 2 dX6_ahead_11 rfl rfl (by decide) rfl ?_
    refine x_bipush 14 dX6_ahead_12 rfl (by decide) ?_
    refine x_sp 17 [_, _] (c_within _ _ (by omega) (by omega)) mX6_within kX6_70 dX6_ahead_14 rfl rfl rfl (Nat.le_of_ble_eq_true rfl) (by decide) ?_
    refine x_ifeq_b 28 20 dX6_ahead_17 (by decide) rfl (fun h17 => ?_) (fun h17 => ?_)
    · refine x_iconst 29 dX6_ahead_28 rfl ?_
      refine x_iret dX6_ahead_29 rfl ⟨rfl, Nat.le_refl _⟩ (qi_i ?_)
      refine PC.same hC ?_
      unfold aAhead; rw [if_neg (by omega)]
    · refine x_iload_n 21 3 dX6_ahead_20 rfl rfl (by decide) rfl ?_
      refine x_iconst 22 dX6_ahead_21 rfl ?_
      refine x_sp 25 [_, _] (c_within _ _ (by omega) (by omega)) mX6_within kX6_70 dX6_ahead_22 rfl rfl rfl (Nat.le_of_ble_eq_true rfl) (by decide) ?_
      refine x_ifne_b 30 28 dX6_ahead_25 (by decide) rfl (fun h25 => ?_) (fun h25 => ?_)
      · refine x_aload_n 31 0 dX6_ahead_30 rfl rfl (by decide) rfl ?_
        refine x_getR 34 3 11 dX6_ahead_31 rfl fX6_28 rfl rfl rfl ?_
        refine x_aload_n 35 0 dX6_ahead_34 rfl rfl (by decide) rfl ?_
        refine x_getR 38 2 4 dX6_ahead_35 rfl fX6_24 rfl rfl rfl ?_
        refine x_vv 41 [_] (c_become (o := 11) (p := 4) (Or.inr (Or.inl rfl)) (Or.inl rfl) (by decide) hV oV) mX1_become kX6_94 dX6_ahead_38 rfl rfl ⟨by decide, rfl⟩ rfl rfl (Nat.le_of_ble_eq_true rfl) (by decide) (fun M2 q2 => ?_)
        obtain ⟨hR2, hF2⟩ := q2
        refine x_aload_n 42 0 dX6_ahead_41 rfl rfl (by decide) rfl ?_
        refine x_getR 45 3 11 dX6_ahead_42 rfl fX6_28 rfl rfl rfl ?_
        refine x_iload_n 46 2 dX6_ahead_45 rfl rfl (by decide) rfl ?_
        refine x_vi 49 [_] (by have z := c_runWeeks (g := g) (o := 11) (Or.inr (Or.inl rfl)) hR2 oV n.toNat (by omega) (by omega); rw [Int.toNat_of_nonneg (show 0 ≤ n by omega)] at z; exact z) mX1_runWeeks kX6_166 dX6_ahead_46 rfl rfl ⟨by decide, rfl⟩ rfl rfl (Nat.le_of_ble_eq_true rfl) (by decide) (fun r3 M3 q3 => ?_)
        obtain ⟨rfl, hR3, hF3⟩ := q3
        refine x_pop 50 dX6_ahead_49 rfl rfl ?_
        obtain ⟨q1, q2, q3, q4⟩ := hR3.2.2.2.1 t (by omega) (by rw [goV_n]; omega)
        refine x_iload_n 51 3 dX6_ahead_50 rfl rfl (by decide) rfl ?_
        refine x_lsw2 96 76 86 dX6_ahead_51 (by decide) (by decide) (by decide) (by decide) (by omega) (fun h51 => ?_) (fun h51 => ?_) (fun h51 k51 => ?_)
        · refine x_aload_n 77 0 dX6_ahead_76 rfl rfl (by decide) rfl ?_
          refine x_getR 80 3 11 dX6_ahead_77 rfl fX6_28 rfl rfl rfl ?_
          refine x_getR 83 1 13 dX6_ahead_80 rfl fX6_126 rfl rfl rfl ?_
          refine x_iload_n 84 1 dX6_ahead_83 rfl rfl (by decide) rfl ?_
          refine x_iaload 85 dX6_ahead_84 rfl rfl (by omega) (fun g84 => ?_)
          refine x_iret dX6_ahead_85 rfl ⟨rfl, Nat.le_refl _⟩ (qi_i ?_)
          refine PC.trial hC (Eq.trans q2 ?_) (hF2.tr hF3)
          unfold aAhead; rw [if_pos (by omega), if_pos (by omega)]
        · refine x_aload_n 87 0 dX6_ahead_86 rfl rfl (by decide) rfl ?_
          refine x_getR 90 3 11 dX6_ahead_87 rfl fX6_28 rfl rfl rfl ?_
          refine x_getR 93 2 14 dX6_ahead_90 rfl fX6_129 rfl rfl rfl ?_
          refine x_iload_n 94 1 dX6_ahead_93 rfl rfl (by decide) rfl ?_
          refine x_iaload 95 dX6_ahead_94 rfl rfl (by omega) (fun g94 => ?_)
          refine x_iret dX6_ahead_95 rfl ⟨rfl, Nat.le_refl _⟩ (qi_i ?_)
          refine PC.trial hC (Eq.trans q3 ?_) (hF2.tr hF3)
          unfold aAhead; rw [if_pos (by omega), if_neg (by omega), if_pos (by omega)]
        · refine x_aload_n 97 0 dX6_ahead_96 rfl rfl (by decide) rfl ?_
          refine x_getR 100 3 11 dX6_ahead_97 rfl fX6_28 rfl rfl rfl ?_
          refine x_getR 103 3 15 dX6_ahead_100 rfl fX6_132 rfl rfl rfl ?_
          refine x_iload_n 104 1 dX6_ahead_103 rfl rfl (by decide) rfl ?_
          refine x_iaload 105 dX6_ahead_104 rfl rfl (by omega) (fun g104 => ?_)
          refine x_iret dX6_ahead_105 rfl ⟨rfl, Nat.le_refl _⟩ (qi_i ?_)
          refine PC.trial hC (Eq.trans q4 ?_) (hF2.tr hF3)
          unfold aAhead; rw [if_pos (by omega), if_neg (by omega), if_neg (by omega)]
      · refine x_iconst 29 dX6_ahead_28 rfl ?_
        refine x_iret dX6_ahead_29 rfl ⟨rfl, Nat.le_refl _⟩ (qi_i ?_)
        refine PC.same hC ?_
        unfold aAhead; rw [if_neg (by omega)]

set_option maxHeartbeats 4000000 in
theorem p_loser {g : GG} {M : Mem} {s : ST} (hC : Cls M s) (hO : SOK s) (n : Int) (hn : -2147483648 ≤ n ∧ n ≤ 2147483647) : CI g tX6_loser 6 [rv g 0, iv n] M (PC M (aLoser s n) s) := by
  refine Con.of [some (rv g 0), some (iv n)] (by decide +kernel) rfl (Nat.le_of_ble_eq_true rfl) ?_
  obtain ⟨hV, ⟨hk0, hk1, hi0, hi1⟩, ⟨hT1, hT2⟩, ⟨hS1, hS2⟩, hZ, hN, hF⟩ := id hC
  obtain ⟨oV, oW, oI0, oI1, oT, oTb, oS, oSb, oZ⟩ := id hO
  obtain ⟨e6, e7, e8, e4, e5⟩ := id hV
  have o1 := oV.1
  have o2 := oV.2.1
  have o3 := oV.2.2.1
  refine x_iload_n 1 1 dX6_loser_0 rfl rfl (by decide) rfl ?_
  refine x_bipush 3 dX6_loser_1 rfl (by decide) ?_
  refine x_sp 6 [_, _] (c_within _ _ (by omega) (by omega)) mX6_within kX6_70 dX6_loser_3 rfl rfl rfl (Nat.le_of_ble_eq_true rfl) (by decide) ?_
  refine x_ifne_b 11 9 dX6_loser_6 (by decide) rfl (fun h6 => ?_) (fun h6 => ?_)
  · refine x_aload_n 12 0 dX6_loser_11 rfl rfl (by decide) rfl ?_
    refine x_getR 15 3 11 dX6_loser_12 rfl fX6_28 rfl rfl rfl ?_
    refine x_aload_n 16 0 dX6_loser_15 rfl rfl (by decide) rfl ?_
    refine x_getR 19 2 4 dX6_loser_16 rfl fX6_24 rfl rfl rfl ?_
    refine x_vv 22 [_] (c_become (o := 11) (p := 4) (Or.inr (Or.inl rfl)) (Or.inl rfl) (by decide) hV oV) mX1_become kX6_94 dX6_loser_19 rfl rfl ⟨by decide, rfl⟩ rfl rfl (Nat.le_of_ble_eq_true rfl) (by decide) (fun M2 q2 => ?_)
    obtain ⟨hR2, hF2⟩ := q2
    refine x_aload_n 23 0 dX6_loser_22 rfl rfl (by decide) rfl ?_
    refine x_getR 26 3 11 dX6_loser_23 rfl fX6_28 rfl rfl rfl ?_
    refine x_iload_n 27 1 dX6_loser_26 rfl rfl (by decide) rfl ?_
    refine x_vi 30 [_] (by have z := c_runWeeks (g := g) (o := 11) (Or.inr (Or.inl rfl)) hR2 oV n.toNat (by omega) (by omega); rw [Int.toNat_of_nonneg (show 0 ≤ n by omega)] at z; exact z) mX1_runWeeks kX6_166 dX6_loser_27 rfl rfl ⟨by decide, rfl⟩ rfl rfl (Nat.le_of_ble_eq_true rfl) (by decide) (fun r3 M3 q3 => ?_)
    obtain ⟨rfl, hR3, hF3⟩ := q3
    refine x_pop 31 dX6_loser_30 rfl rfl ?_
    refine x_aload_n 32 0 dX6_loser_31 rfl rfl (by decide) rfl ?_
    refine x_getR 35 3 11 dX6_loser_32 rfl fX6_28 rfl rfl rfl ?_
    refine x_iconst 36 dX6_loser_35 rfl ?_
    refine x_vi 39 [_] (c_runWeek (o := 11) (Or.inr (Or.inl rfl)) hR3 (goV_WF oV _) (by rw [goV_w]; omega) 0 (Or.inl rfl)) mX1_runWeek kX6_169 dX6_loser_36 rfl rfl ⟨by decide, rfl⟩ rfl rfl (Nat.le_of_ble_eq_true rfl) (by decide) (fun r4 M4 q4 => ?_)
    obtain ⟨rfl, hR4, hF4⟩ := q4
    refine x_iret dX6_loser_39 rfl ⟨rfl, Nat.le_refl _⟩ (qi_i ?_)
    refine PC.trial hC ?_ ((hF2.tr hF3).tr hF4)
    unfold aLoser; rw [if_pos (by omega)]
  · refine x_iconst 10 dX6_loser_9 rfl ?_
    refine x_iret dX6_loser_10 rfl ⟨rfl, Nat.le_refl _⟩ (qi_i ?_)
    refine PC.same hC ?_
    unfold aLoser; rw [if_neg (by omega)]

set_option maxHeartbeats 4000000 in
theorem p_loses {g : GG} {M : Mem} {s : ST} (hC : Cls M s) (hO : SOK s) (t : Int) (ht : -2147483648 ≤ t ∧ t ≤ 2147483647) : CI g tX6_loses 6 [rv g 0, iv t] M (PC M (aLoses s t) s) := by
  refine Con.of [some (rv g 0), some (iv t)] (by decide +kernel) rfl (Nat.le_of_ble_eq_true rfl) ?_
  obtain ⟨hV, ⟨hk0, hk1, hi0, hi1⟩, ⟨hT1, hT2⟩, ⟨hS1, hS2⟩, hZ, hN, hF⟩ := id hC
  obtain ⟨oV, oW, oI0, oI1, oT, oTb, oS, oSb, oZ⟩ := id hO
  obtain ⟨e6, e7, e8, e4, e5⟩ := id hV
  have o1 := oV.1
  have o2 := oV.2.1
  have o3 := oV.2.2.1
  refine x_aload_n 1 0 dX6_loses_0 rfl rfl (by decide) rfl ?_
  refine x_getR 4 2 4 dX6_loses_1 rfl fX6_24 rfl rfl rfl ?_
  refine x_iload_n 5 1 dX6_loses_4 rfl rfl (by decide) rfl ?_
  refine x_vp 8 [_] (c_hasTown (o := 4) (Or.inl rfl) t ht) mX1_hasTown kX6_120 dX6_loses_5 rfl rfl ⟨by decide, rfl⟩ rfl rfl (Nat.le_of_ble_eq_true rfl) (by decide) ?_
  refine x_ifne_b 13 11 dX6_loses_8 (by decide) rfl (fun h8 => ?_) (fun h8 => ?_)
  · refine x_aload_n 14 0 dX6_loses_13 rfl rfl (by decide) rfl ?_
    refine x_getR 17 3 11 dX6_loses_14 rfl fX6_28 rfl rfl rfl ?_
    refine x_aload_n 18 0 dX6_loses_17 rfl rfl (by decide) rfl ?_
    refine x_getR 21 2 4 dX6_loses_18 rfl fX6_24 rfl rfl rfl ?_
    refine x_vv 24 [_] (c_become (o := 11) (p := 4) (Or.inr (Or.inl rfl)) (Or.inl rfl) (by decide) hV oV) mX1_become kX6_94 dX6_loses_21 rfl rfl ⟨by decide, rfl⟩ rfl rfl (Nat.le_of_ble_eq_true rfl) (by decide) (fun M2 q2 => ?_)
    obtain ⟨hR2, hF2⟩ := q2
    refine x_aload_n 25 0 dX6_loses_24 rfl rfl (by decide) rfl ?_
    refine x_getR 28 3 11 dX6_loses_25 rfl fX6_28 rfl rfl rfl ?_
    refine x_iload_n 29 1 dX6_loses_28 rfl rfl (by decide) rfl ?_
    refine x_bipush 31 dX6_loses_29 rfl (by decide) ?_
    refine x_vi 34 [_, _] (c_firstLoss (o := 11) (Or.inr (Or.inl rfl)) hR2 oV t ht 61 (by omega) (by omega)) mX1_firstLoss kX6_173 dX6_loses_31 rfl rfl ⟨by decide, rfl⟩ rfl rfl (Nat.le_of_ble_eq_true rfl) (by decide) (fun r3 M3 q3 => ?_)
    obtain ⟨rfl, hF3⟩ := q3
    refine x_iret dX6_loses_34 rfl ⟨rfl, Nat.le_refl _⟩ (qi_i ?_)
    refine PC.trial hC ?_ (hF2.tr hF3)
    unfold aLoses; rw [if_pos (by omega)]
  · refine x_iconst 12 dX6_loses_11 rfl ?_
    refine x_iret dX6_loses_12 rfl ⟨rfl, Nat.le_refl _⟩ (qi_i ?_)
    refine PC.same hC ?_
    unfold aLoses; rw [if_neg (by omega)]

theorem prs_DI {b : Int → Int} {n : Int} : ∀ (f : Nat) (q : Int) (d : LV) (k : Int), f + k = 16 → DI d k → (0 ≤ q ∧ q ≤ n) → (prs b n f q d k).1 = 0 → DI (prs b n f q d k).2.2.2 (prs b n f q d k).2.2.1 ∧ lackB (prs b n f q d k).2.2.2 = false
  | 0, q, d, k, h, hd, _, _ => by obtain ⟨d1, d2, d3, -⟩ := hd; omega
  | f + 1, q, d, k, h, hd, hq, h0 => by
    have hu : prs b n (f + 1) q d k = if tkBb b n q then (1, tkS b n q, k, d) else if tkK b n q = 0 then (if lackB d then (6, tkS b n q, k, d) else (0, 0, k, d)) else if (lnP b n d q).1 ≠ 0 then ((lnP b n d q).1, (lnP b n d q).2.1, k, d) else prs b n f (lnP b n d q).2.2.1 (lnP b n d q).2.2.2 (k + 1) := rfl
    rw [hu] at h0 ⊢
    split at h0
    · have h0 : (1 : Int) = 0 := h0; omega
    · next h1 =>
      rw [if_neg h1]
      split at h0
      · next h2 =>
        rw [if_pos h2]
        split at h0
        · have h0 : (6 : Int) = 0 := h0; omega
        · next h3 => rw [if_neg h3]; exact ⟨hd, Bool.eq_false_iff.mpr h3⟩
      · next h2 =>
        rw [if_neg h2]
        split at h0
        · next h3 => exact absurd h0 h3
        · next h3 =>
          rw [if_neg h3]
          have ok := lnP_ok hq hd (Decidable.not_not.mp h3)
          exact prs_DI f _ _ (k + 1) (by omega) ok.1 ok.2 h0
theorem DI_WF {d : LV} {k : Int} (h : DI d k) (hl : lackB d = false) : WF d := by
  obtain ⟨h1, h2, h3, h4, h5, h6⟩ := h
  refine ⟨h1, h2, by omega, fun t a b => ?_, fun i a b => ?_⟩
  · obtain ⟨a1, a2, a3, a4⟩ := h5 t a b
    exact ⟨a1, a2, by omega, by omega⟩
  · have hp : pairB d (vA d i) (vB d i) = true := by
      cases e : pairB d (vA d i) (vB d i) with
      | true => rfl
      | false =>
        have : lackB d = true := by
          obtain ⟨j, rfl⟩ := Int.eq_ofNat_of_zero_le a
          exact anyN_t (k := j) (by omega) (by show (!pairB d (vA d j) (vB d j)) = true; rw [e]; rfl)
        rw [hl] at this; cases this
    unfold pairB at hp
    exact of_decide_eq_true hp
theorem txt_WF {s : ST} (hO : SOK s) (h : (txt s).1 = 0) : WF (txt s).2.2.2 ∧ vw (txt s).2.2.2 = 0 := by
  have oT := hO.2.2.2.2.1
  have q := prs_DI (b := tb s) (n := tl s) 16 0 LV0 0 (by omega) DI_0 (by omega) h
  exact ⟨DI_WF q.1 q.2, q.1.2.2.2.1⟩

set_option maxHeartbeats 4000000 in
theorem p_text {g : GG} {M : Mem} {s : ST} (hC : Cls M s) (hO : SOK s) : CI g tX6_text 8 [rv g 0] M (PC M (aText s) (nText s)) := by
  refine Con.of [some (rv g 0), none, none] (by decide +kernel) rfl (Nat.le_of_ble_eq_true rfl) ?_
  obtain ⟨hV, ⟨hk0, hk1, hi0, hi1⟩, ⟨hT1, hT2⟩, ⟨hS1, hS2⟩, hZ, hN, hF⟩ := id hC
  obtain ⟨oV, oW, oI0, oI1, oT, oTb, oS, oSb, oZ⟩ := id hO
  obtain ⟨e6, e7, e8, e4, e5⟩ := id hV
  have o1 := oV.1
  have o2 := oV.2.1
  have o3 := oV.2.2.1
  have hTP : TP M (tl s) (tb s) := ⟨hT1, oT, fun i a b => ⟨hT2 i a b, oTb i a b⟩⟩
  refine x_aload_n 1 0 dX6_text_0 rfl rfl (by decide) rfl ?_
  refine x_getR 4 0 1 dX6_text_1 rfl fX6_12 rfl rfl rfl ?_
  refine x_aload_n 5 0 dX6_text_4 rfl rfl (by decide) rfl ?_
  refine x_getR 8 3 11 dX6_text_5 rfl fX6_28 rfl rfl rfl ?_
  refine x_vi 11 [_] (c_readAll (o := 11) hTP (Or.inr (Or.inl rfl))) mX5_readAll kX6_84 dX6_text_8 rfl rfl ⟨by decide, rfl⟩ rfl rfl (Nat.le_of_ble_eq_true rfl) (by decide) (fun r2 M2 q2 => ?_)
  obtain ⟨r0, r5, rb, rg⟩ := q2
  have er : txt s = prs (tb s) (tl s) 16 0 LV0 0 := rfl
  rw [← er] at r5 rb rg
  have z : ∀ a, a ≠ 1 → a ≠ 2 → (a < 11 ∨ 17 < a) → up2 M2 2 1 0 a = M a := fun a h1 h2 h3 => by rw [up2_o _ _ _ h2]; exact r0 a h1 (by omega)
  have r5u : up2 M2 2 1 0 1 5 = (txt s).1 := by rw [up2_o _ _ _ (show 1 ≠ 2 by omega)]; exact r5
  refine x_istore_n 12 1 _ dX6_text_11 rfl rfl (by decide) rfl rfl ?_
  refine x_aload_n 13 0 dX6_text_12 rfl rfl (by decide) rfl ?_
  refine x_getR 16 1 2 dX6_text_13 rfl fX6_20 rfl rfl rfl ?_
  refine x_iconst 17 dX6_text_16 rfl ?_
  refine x_putI 20 1 1 rfl dX6_text_17 rfl fX6_80 rfl rfl rfl (by omega) ?_
  refine x_aload_n 21 0 dX6_text_20 rfl rfl (by decide) rfl ?_
  refine x_getR 24 0 1 dX6_text_21 rfl fX6_12 rfl rfl rfl ?_
  refine x_getI 27 5 5 rfl dX6_text_24 rfl fX6_88 rfl rfl (fun g24 => ?_)
  refine x_if_eq 41 30 dX6_text_27 (by decide) rfl (by omega) (fun h27 => ?_) (fun h27 => ?_)
  · have h0 : (txt s).1 = 0 := by omega
    have hRt : Rep (up2 M2 2 1 0) 11 (txt s).2.2.2 := (rg h0).2.keep (fun a x y => up2_o _ _ _ (by omega))
    refine x_aload_n 42 0 dX6_text_41 rfl rfl (by decide) rfl ?_
    refine x_getR 45 2 4 dX6_text_42 rfl fX6_24 rfl rfl rfl ?_
    refine x_aload_n 46 0 dX6_text_45 rfl rfl (by decide) rfl ?_
    refine x_getR 49 3 11 dX6_text_46 rfl fX6_28 rfl rfl rfl ?_
    refine x_vv 52 [_] (c_become (o := 4) (p := 11) (Or.inl rfl) (Or.inr (Or.inl rfl)) (by decide) hRt (txt_WF hO h0).1) mX1_become kX6_94 dX6_text_49 rfl rfl ⟨by decide, rfl⟩ rfl rfl (Nat.le_of_ble_eq_true rfl) (by decide) (fun M3 q3 => ?_)
    obtain ⟨hR3, hF3⟩ := q3
    refine x_aload_n 53 0 dX6_text_52 rfl rfl (by decide) rfl ?_
    refine x_getR 56 7 21 dX6_text_53 rfl fX6_48 rfl rfl rfl ?_
    refine x_iconst 57 dX6_text_56 rfl ?_
    refine x_putI 60 2 2 rfl dX6_text_57 rfl fX6_98 rfl rfl rfl (by omega) ?_
    refine x_iconst 61 dX6_text_60 rfl ?_
    refine x_istore_n 62 2 _ dX6_text_61 rfl rfl (by decide) rfl rfl ?_
    refine x_iload_n 63 2 dX6_text_62 rfl rfl (by decide) rfl ?_
    refine x_iconst 64 dX6_text_63 rfl ?_
    refine x_icmp_ge 80 67 dX6_text_64 (by decide) rfl (by omega) (fun h64 => ?_) (fun h64 => ?_)
    · exfalso; omega
    · refine x_aload_n 68 0 dX6_text_67 rfl rfl (by decide) rfl ?_
      refine x_getR 71 5 19 dX6_text_68 rfl fX6_35 rfl rfl rfl ?_
      refine x_iload_n 72 2 dX6_text_71 rfl rfl (by decide) rfl ?_
      refine x_iconst 73 dX6_text_72 rfl ?_
      refine x_zastore 74 dX6_text_73 rfl rfl (by omega) (by omega) (by rfl) ?_
      refine x_iinc 77 _ dX6_text_74 rfl (by decide) rfl rfl rfl ?_
      refine x_goto 62 dX6_text_77 (by decide) ?_
      refine x_iload_n 63 2 dX6_text_62 rfl rfl (by decide) rfl ?_
      refine x_iconst 64 dX6_text_63 rfl ?_
      refine x_icmp_ge 80 67 dX6_text_64 (by decide) rfl (by omega) (fun h64 => ?_) (fun h64 => ?_)
      · exfalso; omega
      · refine x_aload_n 68 0 dX6_text_67 rfl rfl (by decide) rfl ?_
        refine x_getR 71 5 19 dX6_text_68 rfl fX6_35 rfl rfl rfl ?_
        refine x_iload_n 72 2 dX6_text_71 rfl rfl (by decide) rfl ?_
        refine x_iconst 73 dX6_text_72 rfl ?_
        refine x_zastore 74 dX6_text_73 rfl rfl (by omega) (by omega) (by rfl) ?_
        refine x_iinc 77 _ dX6_text_74 rfl (by decide) rfl rfl rfl ?_
        refine x_goto 62 dX6_text_77 (by decide) ?_
        refine x_iload_n 63 2 dX6_text_62 rfl rfl (by decide) rfl ?_
        refine x_iconst 64 dX6_text_63 rfl ?_
        refine x_icmp_ge 80 67 dX6_text_64 (by decide) rfl (by omega) (fun h64 => ?_) (fun h64 => ?_)
        · refine x_iload_n 81 1 dX6_text_80 rfl rfl (by decide) rfl ?_
          refine x_iret dX6_text_81 rfl ⟨rfl, Nat.le_refl _⟩ (qi_i ?_)
          have y1 : aText s = (txt s).2.2.1 := by (unfold aText; rw [if_pos h0])
          have y2 : nText s = uS (uK (uV (uF (uT s 0 (tb s)) (txt s).1) (txt s).2.2.2) 0 0 (i0 s) (i1 s)) 0 (sw s) (sl s) := by (unfold nText; rw [if_pos h0])
          rw [y1, y2]
          have w : ∀ a, a ≠ 21 → a ≠ 19 → up2 (up2 (up2 M3 21 2 0) 19 0 0) 19 (0 + 1) 0 a = M3 a := fun a h1 h2 => by rw [up2_o _ _ _ h2, up2_o _ _ _ h2, up2_o _ _ _ h1]
          refine ⟨(rg h0).1, ⟨hR3.keep (fun a x y => w a (by omega) (by omega)), ⟨?_, ?_, fun q => by (have q : (0 : Int) = 1 := q; omega), fun q => by (have q : (0 : Int) = 1 := q; omega)⟩, ⟨?_, fun i a b => by (have b : i < 0 := b; omega)⟩, ⟨?_, fun i a b => by (have b : i < 0 := b; omega)⟩, fun k hk => ?_, ?_, ?_⟩, fun a ha => ?_⟩
          · rw [up2_k _ _ _ (by omega), up2_s]; rfl
          · exact up2_s _ _ _ _
          · rw [w 2 (by omega) (by omega), hF3 2 (by omega), up2_s]; rfl
          · rw [up2_o _ _ _ (by omega), up2_o _ _ _ (by omega), up2_s]; rfl
          · rw [w (42 + 2 * k) (by omega) (by omega), hF3 (42 + 2 * k) (by omega), z (42 + 2 * k) (by omega) (by omega) (by omega), w (43 + 2 * k) (by omega) (by omega), hF3 (43 + 2 * k) (by omega), z (43 + 2 * k) (by omega) (by omega) (by omega)]; exact hZ k hk
          · rw [w 0 (by omega) (by omega), hF3 0 (by omega), z 0 (by omega) (by omega) (by omega)]; exact hN
          · rw [w 1 (by omega) (by omega), hF3 1 (by omega), up2_o _ _ _ (show 1 ≠ 2 by omega)]; exact r5
          · rw [w a (by omega) (by omega), hF3 a (by omega)]; exact z a (by omega) (by omega) (by omega)
        · exfalso; omega
  · refine x_bipush 32 dX6_text_30 rfl (by decide) ?_
    refine x_aload_n 33 0 dX6_text_32 rfl rfl (by decide) rfl ?_
    refine x_getR 36 0 1 dX6_text_33 rfl fX6_12 rfl rfl rfl ?_
    refine x_getI 39 6 6 rfl dX6_text_36 rfl fX6_91 rfl rfl (fun g36 => ?_)
    refine x_isub 40 dX6_text_39 rfl ?_
    refine x_iret dX6_text_40 rfl ⟨rfl, Nat.le_refl _⟩ (qi_i ?_)
    have h0 : ¬ (txt s).1 = 0 := by omega
    have y1 : aText s = -10 - (txt s).2.1 := by (unfold aText; rw [if_neg h0])
    have y2 : nText s = uF (uT s 0 (tb s)) (txt s).1 := by (unfold nText; rw [if_neg h0])
    rw [y1, y2]
    refine ⟨by rw [up2_o _ _ _ (show 1 ≠ 2 by omega), rb h0], ⟨hV.keep (fun a x y => z a (by omega) (by omega) (by omega)), ⟨?_, ?_, fun q => (hi0 q).keep (fun a x y => z a (by omega) (by omega) (by omega)), fun q => (hi1 q).keep (fun a x y => z a (by omega) (by omega) (by omega))⟩, ⟨up2_s _ _ _ _, fun i a b => by (have b : i < 0 := b; omega)⟩, ?_, fun k hk => ?_, ?_, ?_⟩, fun a ha => z a (by omega) (by omega) (by omega)⟩
    · rw [z 19 (by omega) (by omega) (by omega)]; exact hk0
    · rw [z 19 (by omega) (by omega) (by omega)]; exact hk1
    · rw [z 21 (by omega) (by omega) (by omega), z 22 (by omega) (by omega) (by omega), z 23 (by omega) (by omega) (by omega)]; exact ⟨hS1, hS2⟩
    · rw [z (42 + 2 * k) (by omega) (by omega) (by omega), z (43 + 2 * k) (by omega) (by omega) (by omega)]; exact hZ k hk
    · rw [z 0 (by omega) (by omega) (by omega)]; exact hN
    · rw [up2_o _ _ _ (show 1 ≠ 2 by omega)]; exact r5
