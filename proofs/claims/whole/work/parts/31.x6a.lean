set_option maxHeartbeats 4000000 in
theorem c_within {g : GG} {M : Mem} (x m : Int) (hx : -2147483648 ≤ x ∧ x ≤ 2147483647) (hm : -2147483648 ≤ m ∧ m ≤ 2147483647) : CP g tX6_within 0 [iv x, iv m] M (bI (0 ≤ x ∧ x ≤ m)) := by
  refine Con.of [some (iv x), some (iv m)] (by decide +kernel) rfl (Nat.le_of_ble_eq_true rfl) ?_
  refine x_iload_n 1 0 dX6_within_0 rfl rfl (by decide) rfl ?_
  refine x_if_lt 13 4 dX6_within_1 (by decide) rfl (by omega) (fun h1 => ?_) (fun h1 => ?_)
  · refine x_iconst 14 dX6_within_13 rfl ?_
    refine x_zret dX6_within_14 rfl (by first | exact Or.inl rfl | exact Or.inr rfl | exact bI_or _ | omega) ⟨rfl, Nat.le_refl _⟩ (qp_i ?_ rfl)
    first | exact (bI_t (by omega)).symm | exact (bI_f (by omega)).symm
  · refine x_iload_n 5 0 dX6_within_4 rfl rfl (by decide) rfl ?_
    refine x_iload_n 6 1 dX6_within_5 rfl rfl (by decide) rfl ?_
    refine x_icmp_gt 13 9 dX6_within_6 (by decide) rfl (by omega) (fun h6 => ?_) (fun h6 => ?_)
    · refine x_iconst 14 dX6_within_13 rfl ?_
      refine x_zret dX6_within_14 rfl (by first | exact Or.inl rfl | exact Or.inr rfl | exact bI_or _ | omega) ⟨rfl, Nat.le_refl _⟩ (qp_i ?_ rfl)
      first | exact (bI_t (by omega)).symm | exact (bI_f (by omega)).symm
    · refine x_iconst 10 dX6_within_9 rfl ?_
      refine x_goto 14 dX6_within_10 (by decide) ?_
      refine x_zret dX6_within_14 rfl (by first | exact Or.inl rfl | exact Or.inr rfl | exact bI_or _ | omega) ⟨rfl, Nat.le_refl _⟩ (qp_i ?_ rfl)
      first | exact (bI_t (by omega)).symm | exact (bI_f (by omega)).symm

set_option maxHeartbeats 4000000 in
theorem p_feed {g : GG} {M : Mem} {s : ST} (hC : Cls M s) (hO : SOK s) (c : Int) (hc : -2147483648 ≤ c ∧ c ≤ 2147483647) : CI g tX6_feed 1 [rv g 0, iv c] M (PC M (aFeed s c) (nFeed s c)) := by
  refine Con.of [some (rv g 0), some (iv c)] (by decide +kernel) rfl (Nat.le_of_ble_eq_true rfl) ?_
  obtain ⟨hV, ⟨hk0, hk1, hi0, hi1⟩, ⟨hT1, hT2⟩, ⟨hS1, hS2⟩, hZ, hN, hF⟩ := id hC
  obtain ⟨oV, oW, oI0, oI1, oT, oTb, oS, oSb, oZ⟩ := id hO
  obtain ⟨e6, e7, e8, e4, e5⟩ := id hV
  have o1 := oV.1
  have o2 := oV.2.1
  have o3 := oV.2.2.1
  refine x_iload_n 1 1 dX6_feed_0 rfl rfl (by decide) rfl ?_
  refine x_bipush 3 dX6_feed_1 rfl (by decide) ?_
  refine x_sp 6 [_, _] (c_within _ _ (by omega) (by omega)) mX6_within kX6_70 dX6_feed_3 rfl rfl rfl (Nat.le_of_ble_eq_true rfl) (by decide) ?_
  refine x_ifne_b 11 9 dX6_feed_6 (by decide) rfl (fun h6 => ?_) (fun h6 => ?_)
  · refine x_aload_n 12 0 dX6_feed_11 rfl rfl (by decide) rfl ?_
    refine x_getR 15 1 2 dX6_feed_12 rfl fX6_20 rfl rfl rfl ?_
    refine x_iload_n 16 1 dX6_feed_15 rfl rfl (by decide) rfl ?_
    refine x_vi 19 [_] (c_append (by omega) c (by omega)) mX4_append kX6_74 dX6_feed_16 rfl rfl ⟨by decide, rfl⟩ rfl rfl (Nat.le_of_ble_eq_true rfl) (by decide) (fun r2 M2 q2 => ?_)
    obtain ⟨rfl, rfl⟩ := q2
    refine x_ifeq_b 32 22 dX6_feed_19 (by decide) rfl (fun h19 => ?_) (fun h19 => ?_)
    · rw [if_neg (show ¬ M 2 1 < 160 by assumption)]
      have hlt : ¬ M 2 1 < 160 := by assumption
      refine x_bipush 34 dX6_feed_32 rfl (by decide) ?_
      refine x_iret dX6_feed_34 rfl ⟨rfl, Nat.le_refl _⟩ (qi_i ?_)
      first
        | (have e1 : aFeed s c = -3 := by (unfold aFeed; rw [if_pos (by omega), if_neg (by omega)])
           have e2 : nFeed s c = s := by (unfold nFeed; rw [if_pos (by omega), if_neg (by omega)])
           rw [e1, e2]; exact PC.same hC rfl)
        | (have e1 : aFeed s c = tl s + 1 := by (unfold aFeed; rw [if_pos (by omega), if_pos (by omega)])
           have e2 : nFeed s c = uT s (tl s + 1) (fu (tb s) (tl s) c) := by (unfold nFeed; rw [if_pos (by omega), if_pos (by omega)])
           rw [e1, e2, up2_s, hT1]
           refine ⟨rfl, ⟨hV.keep (fun a x y => by rw [up2_o _ _ _ (by omega), up2_o _ _ _ (by omega)]), ⟨?_, ?_, fun q => (hi0 q).keep (fun a x y => by rw [up2_o _ _ _ (by omega), up2_o _ _ _ (by omega)]), fun q => (hi1 q).keep (fun a x y => by rw [up2_o _ _ _ (by omega), up2_o _ _ _ (by omega)])⟩, ⟨up2_s _ _ _ _, fun i a b => ?_⟩, ?_, fun k hk => ?_, ?_, ?_⟩, fun a ha => by rw [up2_o _ _ _ (by omega), up2_o _ _ _ (by omega)]⟩
           · rw [up2_o _ _ _ (by omega), up2_o _ _ _ (by omega)]; exact hk0
           · rw [up2_o _ _ _ (by omega), up2_o _ _ _ (by omega)]; exact hk1
           · rw [up2_o _ _ _ (by omega), up2_i]
             show _ = fu (tb s) (tl s) c i
             have b : i < tl s + 1 := b
             by_cases e : i = tl s
             · rw [if_pos e, e, fu_s]
             · rw [if_neg e, fu_n _ _ e]; exact hT2 i a (by omega)
           · rw [up2_o _ _ _ (by omega), up2_o _ _ _ (by omega), up2_o _ _ _ (by omega), up2_o _ _ _ (by omega), up2_o _ _ _ (by omega), up2_o _ _ _ (by omega)]; exact ⟨hS1, hS2⟩
           · rw [up2_o _ _ _ (by omega), up2_o _ _ _ (by omega), up2_o _ _ _ (by omega), up2_o _ _ _ (by omega)]; exact hZ k hk
           · rw [up2_o _ _ _ (by omega), up2_o _ _ _ (by omega)]; exact hN
           · rw [up2_o _ _ _ (by omega), up2_o _ _ _ (by omega)]; exact hF)
    · rw [if_pos (show M 2 1 < 160 by assumption)]
      have hlt : M 2 1 < 160 := by assumption
      refine x_aload_n 23 0 dX6_feed_22 rfl rfl (by decide) rfl ?_
      refine x_getR 26 1 2 dX6_feed_23 rfl fX6_20 rfl rfl rfl ?_
      refine x_getI 29 1 1 rfl dX6_feed_26 rfl fX6_80 rfl rfl (fun g26 => ?_)
      refine x_goto 34 dX6_feed_29 (by decide) ?_
      refine x_iret dX6_feed_34 rfl ⟨rfl, Nat.le_refl _⟩ (qi_i ?_)
      first
        | (have e1 : aFeed s c = -3 := by (unfold aFeed; rw [if_pos (by omega), if_neg (by omega)])
           have e2 : nFeed s c = s := by (unfold nFeed; rw [if_pos (by omega), if_neg (by omega)])
           rw [e1, e2]; exact PC.same hC rfl)
        | (have e1 : aFeed s c = tl s + 1 := by (unfold aFeed; rw [if_pos (by omega), if_pos (by omega)])
           have e2 : nFeed s c = uT s (tl s + 1) (fu (tb s) (tl s) c) := by (unfold nFeed; rw [if_pos (by omega), if_pos (by omega)])
           rw [e1, e2, up2_s, hT1]
           refine ⟨rfl, ⟨hV.keep (fun a x y => by rw [up2_o _ _ _ (by omega), up2_o _ _ _ (by omega)]), ⟨?_, ?_, fun q => (hi0 q).keep (fun a x y => by rw [up2_o _ _ _ (by omega), up2_o _ _ _ (by omega)]), fun q => (hi1 q).keep (fun a x y => by rw [up2_o _ _ _ (by omega), up2_o _ _ _ (by omega)])⟩, ⟨up2_s _ _ _ _, fun i a b => ?_⟩, ?_, fun k hk => ?_, ?_, ?_⟩, fun a ha => by rw [up2_o _ _ _ (by omega), up2_o _ _ _ (by omega)]⟩
           · rw [up2_o _ _ _ (by omega), up2_o _ _ _ (by omega)]; exact hk0
           · rw [up2_o _ _ _ (by omega), up2_o _ _ _ (by omega)]; exact hk1
           · rw [up2_o _ _ _ (by omega), up2_i]
             show _ = fu (tb s) (tl s) c i
             have b : i < tl s + 1 := b
             by_cases e : i = tl s
             · rw [if_pos e, e, fu_s]
             · rw [if_neg e, fu_n _ _ e]; exact hT2 i a (by omega)
           · rw [up2_o _ _ _ (by omega), up2_o _ _ _ (by omega), up2_o _ _ _ (by omega), up2_o _ _ _ (by omega), up2_o _ _ _ (by omega), up2_o _ _ _ (by omega)]; exact ⟨hS1, hS2⟩
           · rw [up2_o _ _ _ (by omega), up2_o _ _ _ (by omega), up2_o _ _ _ (by omega), up2_o _ _ _ (by omega)]; exact hZ k hk
           · rw [up2_o _ _ _ (by omega), up2_o _ _ _ (by omega)]; exact hN
           · rw [up2_o _ _ _ (by omega), up2_o _ _ _ (by omega)]; exact hF)
  · refine x_iconst 10 dX6_feed_9 rfl ?_
    refine x_iret dX6_feed_10 rfl ⟨rfl, Nat.le_refl _⟩ (qi_i ?_)
    have e1 : aFeed s c = -1 := by (unfold aFeed; rw [if_neg (by omega)])
    have e2 : nFeed s c = s := by (unfold nFeed; rw [if_neg (by omega)])
    rw [e1, e2]; exact PC.same hC rfl

set_option maxHeartbeats 4000000 in
theorem p_end {g : GG} {M : Mem} {s : ST} (hC : Cls M s) (hO : SOK s) (n : Int) (hn : -2147483648 ≤ n ∧ n ≤ 2147483647) : CI g tX6_end 1 [rv g 0, iv n] M (PC M (aEnd s n) (nEnd s n)) := by
  refine Con.of [some (rv g 0), some (iv n), none] (by decide +kernel) rfl (Nat.le_of_ble_eq_true rfl) ?_
  obtain ⟨hV, ⟨hk0, hk1, hi0, hi1⟩, ⟨hT1, hT2⟩, ⟨hS1, hS2⟩, hZ, hN, hF⟩ := id hC
  obtain ⟨oV, oW, oI0, oI1, oT, oTb, oS, oSb, oZ⟩ := id hO
  obtain ⟨e6, e7, e8, e4, e5⟩ := id hV
  have o1 := oV.1
  have o2 := oV.2.1
  have o3 := oV.2.2.1
  refine x_iload_n 1 1 dX6_end_0 rfl rfl (by decide) rfl ?_
  refine x_aload_n 2 0 dX6_end_1 rfl rfl (by decide) rfl ?_
  refine x_getR 5 1 2 dX6_end_2 rfl fX6_20 rfl rfl rfl ?_
  refine x_getI 8 1 1 rfl dX6_end_5 rfl fX6_80 rfl rfl (fun g5 => ?_)
  refine x_sp 11 [_, _] (c_within _ _ (by omega) (by omega)) mX6_within kX6_70 dX6_end_8 rfl rfl rfl (Nat.le_of_ble_eq_true rfl) (by decide) ?_
  refine x_ifne_b 16 14 dX6_end_11 (by decide) rfl (fun h11 => ?_) (fun h11 => ?_)
  · refine x_aload_n 17 0 dX6_end_16 rfl rfl (by decide) rfl ?_
    refine x_getR 20 1 2 dX6_end_17 rfl fX6_20 rfl rfl rfl ?_
    refine x_getI 23 1 1 rfl dX6_end_20 rfl fX6_80 rfl rfl (fun g20 => ?_)
    refine x_istore_n 24 2 _ dX6_end_23 rfl rfl (by decide) rfl rfl ?_
    refine x_aload_n 25 0 dX6_end_24 rfl rfl (by decide) rfl ?_
    refine x_getR 28 1 2 dX6_end_25 rfl fX6_20 rfl rfl rfl ?_
    refine x_iload_n 29 1 dX6_end_28 rfl rfl (by decide) rfl ?_
    refine x_putI 32 1 1 rfl dX6_end_29 rfl fX6_80 rfl rfl rfl (by omega) ?_
    refine x_iload_n 33 2 dX6_end_32 rfl rfl (by decide) rfl ?_
    refine x_iret dX6_end_33 rfl ⟨rfl, Nat.le_refl _⟩ (qi_i ?_)
    have e1 : aEnd s n = tl s := by (unfold aEnd; rw [if_pos (by omega)])
    have e2 : nEnd s n = uT s n (tb s) := by (unfold nEnd; rw [if_pos (by omega)])
    rw [e1, e2]
    refine ⟨hT1, ⟨hV.keep (fun a x y => up2_o _ _ _ (by omega)), ⟨?_, ?_, fun q => (hi0 q).keep (fun a x y => up2_o _ _ _ (by omega)), fun q => (hi1 q).keep (fun a x y => up2_o _ _ _ (by omega))⟩, ⟨up2_s _ _ _ _, fun i a b => ?_⟩, ?_, fun k hk => ?_, ?_, ?_⟩, fun a ha => up2_o _ _ _ (by omega)⟩
    · rw [up2_o _ _ _ (by omega)]; exact hk0
    · rw [up2_o _ _ _ (by omega)]; exact hk1
    · rw [up2_o _ _ _ (by omega)]; have b : i < n := b; exact hT2 i a (by omega)
    · rw [up2_o _ _ _ (by omega), up2_o _ _ _ (by omega), up2_o _ _ _ (by omega)]; exact ⟨hS1, hS2⟩
    · rw [up2_o _ _ _ (by omega), up2_o _ _ _ (by omega)]; exact hZ k hk
    · rw [up2_o _ _ _ (by omega)]; exact hN
    · rw [up2_o _ _ _ (by omega)]; exact hF
  · refine x_iconst 15 dX6_end_14 rfl ?_
    refine x_iret dX6_end_15 rfl ⟨rfl, Nat.le_refl _⟩ (qi_i ?_)
    have e1 : aEnd s n = -1 := by (unfold aEnd; rw [if_neg (by omega)])
    have e2 : nEnd s n = s := by (unfold nEnd; rw [if_neg (by omega)])
    rw [e1, e2]; exact PC.same hC rfl

set_option maxHeartbeats 4000000 in
theorem p_fault {g : GG} {M : Mem} {s : ST} (hC : Cls M s) (hO : SOK s) : CI g tX6_fault 0 [rv g 0] M (PC M (fa s) s) := by
  refine Con.of [some (rv g 0)] (by decide +kernel) rfl (Nat.le_of_ble_eq_true rfl) ?_
  obtain ⟨hV, ⟨hk0, hk1, hi0, hi1⟩, ⟨hT1, hT2⟩, ⟨hS1, hS2⟩, hZ, hN, hF⟩ := id hC
  obtain ⟨oV, oW, oI0, oI1, oT, oTb, oS, oSb, oZ⟩ := id hO
  obtain ⟨e6, e7, e8, e4, e5⟩ := id hV
  have o1 := oV.1
  have o2 := oV.2.1
  have o3 := oV.2.2.1
  refine x_aload_n 1 0 dX6_fault_0 rfl rfl (by decide) rfl ?_
  refine x_getR 4 0 1 dX6_fault_1 rfl fX6_12 rfl rfl rfl ?_
  refine x_getI 7 5 5 rfl dX6_fault_4 rfl fX6_88 rfl rfl (fun g4 => ?_)
  refine x_iret dX6_fault_7 rfl ⟨rfl, Nat.le_refl _⟩ (qi_i ?_)
  exact PC.same hC hF

set_option maxHeartbeats 4000000 in
theorem p_rule {g : GG} {M : Mem} {s : ST} (hC : Cls M s) (hO : SOK s) (w : Int) (hw : -2147483648 ≤ w ∧ w ≤ 2147483647) : CI g tX6_rule 2 [rv g 0, iv w] M (PC M (aRule s w) s) := by
  refine Con.of [some (rv g 0), some (iv w)] (by decide +kernel) rfl (Nat.le_of_ble_eq_true rfl) ?_
  obtain ⟨hV, ⟨hk0, hk1, hi0, hi1⟩, ⟨hT1, hT2⟩, ⟨hS1, hS2⟩, hZ, hN, hF⟩ := id hC
  obtain ⟨oV, oW, oI0, oI1, oT, oTb, oS, oSb, oZ⟩ := id hO
  obtain ⟨e6, e7, e8, e4, e5⟩ := id hV
  have o1 := oV.1
  have o2 := oV.2.1
  have o3 := oV.2.2.1
  refine x_iload_n 1 1 dX6_rule_0 rfl rfl (by decide) rfl ?_
  refine x_tsw 88 dX6_rule_1 (by decide) (by omega) (fun h1 => ?_) (fun c1 hl1 hh1 hx1 => ?_)
  · refine x_iconst 89 dX6_rule_88 rfl ?_
    refine x_iret dX6_rule_89 rfl ⟨rfl, Nat.le_refl _⟩ (qi_i ?_)
    refine PC.same hC ?_
    unfold aRule
    first | (rw [if_neg (by omega), if_neg (by omega), if_neg (by omega), if_neg (by omega), if_neg (by omega), if_neg (by omega)]) | (subst hx1; first | exact e6 | exact e7 | exact e8 | rfl | (show _ = fixN (sV s); unfold fixN; rw [e7, e8]))
  · rcases (show c1 = 0 ∨ c1 = 1 ∨ c1 = 2 ∨ c1 = 3 ∨ c1 = 4 ∨ c1 = 5 by omega) with rfl | rfl | rfl | rfl | rfl | rfl
    · refine ⟨39, 40, rfl, by decide, ?_⟩
      refine x_aload_n 41 0 dX6_rule_40 rfl rfl (by decide) rfl ?_
      refine x_getR 44 2 4 dX6_rule_41 rfl fX6_24 rfl rfl rfl ?_
      refine x_getI 47 6 6 rfl dX6_rule_44 rfl fX6_101 rfl rfl (fun g44 => ?_)
      refine x_iret dX6_rule_47 rfl ⟨rfl, Nat.le_refl _⟩ (qi_i ?_)
      refine PC.same hC ?_
      unfold aRule
      first | (rw [if_neg (by omega), if_neg (by omega), if_neg (by omega), if_neg (by omega), if_neg (by omega), if_neg (by omega)]) | (subst hx1; first | exact e6 | exact e7 | exact e8 | rfl | (show _ = fixN (sV s); unfold fixN; rw [e7, e8]))
    · refine ⟨47, 48, rfl, by decide, ?_⟩
      refine x_aload_n 49 0 dX6_rule_48 rfl rfl (by decide) rfl ?_
      refine x_getR 52 2 4 dX6_rule_49 rfl fX6_24 rfl rfl rfl ?_
      refine x_getI 55 7 7 rfl dX6_rule_52 rfl fX6_104 rfl rfl (fun g52 => ?_)
      refine x_iret dX6_rule_55 rfl ⟨rfl, Nat.le_refl _⟩ (qi_i ?_)
      refine PC.same hC ?_
      unfold aRule
      first | (rw [if_neg (by omega), if_neg (by omega), if_neg (by omega), if_neg (by omega), if_neg (by omega), if_neg (by omega)]) | (subst hx1; first | exact e6 | exact e7 | exact e8 | rfl | (show _ = fixN (sV s); unfold fixN; rw [e7, e8]))
    · refine ⟨55, 56, rfl, by decide, ?_⟩
      refine x_aload_n 57 0 dX6_rule_56 rfl rfl (by decide) rfl ?_
      refine x_getR 60 2 4 dX6_rule_57 rfl fX6_24 rfl rfl rfl ?_
      refine x_getI 63 8 8 rfl dX6_rule_60 rfl fX6_107 rfl rfl (fun g60 => ?_)
      refine x_iret dX6_rule_63 rfl ⟨rfl, Nat.le_refl _⟩ (qi_i ?_)
      refine PC.same hC ?_
      unfold aRule
      first | (rw [if_neg (by omega), if_neg (by omega), if_neg (by omega), if_neg (by omega), if_neg (by omega), if_neg (by omega)]) | (subst hx1; first | exact e6 | exact e7 | exact e8 | rfl | (show _ = fixN (sV s); unfold fixN; rw [e7, e8]))
    · refine ⟨63, 64, rfl, by decide, ?_⟩
      refine x_aload_n 65 0 dX6_rule_64 rfl rfl (by decide) rfl ?_
      refine x_getR 68 2 4 dX6_rule_65 rfl fX6_24 rfl rfl rfl ?_
      refine x_vp 71 [] (c_fixtureNow (o := 4) (Or.inl rfl) (by omega)) mX1_fixtureNow kX6_110 dX6_rule_68 rfl rfl ⟨by decide, rfl⟩ rfl rfl (Nat.le_of_ble_eq_true rfl) (by decide) ?_
      refine x_iret dX6_rule_71 rfl ⟨rfl, Nat.le_refl _⟩ (qi_i ?_)
      refine PC.same hC ?_
      unfold aRule
      first | (rw [if_neg (by omega), if_neg (by omega), if_neg (by omega), if_neg (by omega), if_neg (by omega), if_neg (by omega)]) | (subst hx1; first | exact e6 | exact e7 | exact e8 | rfl | (show _ = fixN (sV s); unfold fixN; rw [e7, e8]))
    · refine ⟨71, 72, rfl, by decide, ?_⟩
      refine x_aload_n 73 0 dX6_rule_72 rfl rfl (by decide) rfl ?_
      refine x_getR 76 2 4 dX6_rule_73 rfl fX6_24 rfl rfl rfl ?_
      refine x_vp 79 [] (c_withLosses (o := 4) (Or.inl rfl) hV oV) mX1_withLosses kX6_114 dX6_rule_76 rfl rfl ⟨by decide, rfl⟩ rfl rfl (Nat.le_of_ble_eq_true rfl) (by decide) ?_
      refine x_iret dX6_rule_79 rfl ⟨rfl, Nat.le_refl _⟩ (qi_i ?_)
      refine PC.same hC ?_
      unfold aRule
      first | (rw [if_neg (by omega), if_neg (by omega), if_neg (by omega), if_neg (by omega), if_neg (by omega), if_neg (by omega)]) | (subst hx1; first | exact e6 | exact e7 | exact e8 | rfl | (show _ = fixN (sV s); unfold fixN; rw [e7, e8]))
    · refine ⟨79, 80, rfl, by decide, ?_⟩
      refine x_aload_n 81 0 dX6_rule_80 rfl rfl (by decide) rfl ?_
      refine x_getR 84 2 4 dX6_rule_81 rfl fX6_24 rfl rfl rfl ?_
      refine x_vp 87 [] (c_owed (o := 4) (Or.inl rfl) hV oV) mX1_owed kX6_117 dX6_rule_84 rfl rfl ⟨by decide, rfl⟩ rfl rfl (Nat.le_of_ble_eq_true rfl) (by decide) ?_
      refine x_iret dX6_rule_87 rfl ⟨rfl, Nat.le_refl _⟩ (qi_i ?_)
      refine PC.same hC ?_
      unfold aRule
      first | (rw [if_neg (by omega), if_neg (by omega), if_neg (by omega), if_neg (by omega), if_neg (by omega), if_neg (by omega)]) | (subst hx1; first | exact e6 | exact e7 | exact e8 | rfl | (show _ = fixN (sV s); unfold fixN; rw [e7, e8]))

set_option maxHeartbeats 4000000 in
theorem p_town {g : GG} {M : Mem} {s : ST} (hC : Cls M s) (hO : SOK s) (t w : Int) (ht : -2147483648 ≤ t ∧ t ≤ 2147483647) (hw : -2147483648 ≤ w ∧ w ≤ 2147483647) : CI g tX6_town 2 [rv g 0, iv t, iv w] M (PC M (aTown s t w) s) := by
  refine Con.of [some (rv g 0), some (iv t), some (iv w)] (by decide +kernel) rfl (Nat.le_of_ble_eq_true rfl) ?_
  obtain ⟨hV, ⟨hk0, hk1, hi0, hi1⟩, ⟨hT1, hT2⟩, ⟨hS1, hS2⟩, hZ, hN, hF⟩ := id hC
  obtain ⟨oV, oW, oI0, oI1, oT, oTb, oS, oSb, oZ⟩ := id hO
  obtain ⟨e6, e7, e8, e4, e5⟩ := id hV
  have o1 := oV.1
  have o2 := oV.2.1
  have o3 := oV.2.2.1
  refine x_aload_n 1 0 dX6_town_0 rfl rfl (by decide) rfl ?_
  refine x_getR 4 2 4 dX6_town_1 rfl fX6_24 rfl rfl rfl ?_
  refine x_iload_n 5 1 dX6_town_4 rfl rfl (by decide) rfl ?_
  refine x_vp 8 [_] (c_hasTown (o := 4) (Or.inl rfl) t ht) mX1_hasTown kX6_120 dX6_town_5 rfl rfl ⟨by decide, rfl⟩ rfl rfl (Nat.le_of_ble_eq_true rfl) (by decide) ?_
  refine x_ifne_b 13 11 dX6_town_8 (by decide) rfl (fun h8 => ?_) (fun h8 => ?_)
  · have ht2 : 0 ≤ t ∧ t < vn (sV s) := by omega
    obtain ⟨q1, q2, q3, q4⟩ := e4 t ht2.1 ht2.2
    refine x_iload_n 14 2 dX6_town_13 rfl rfl (by decide) rfl ?_
    refine x_tsw 97 dX6_town_14 (by decide) (by omega) (fun h14 => ?_) (fun c14 hl14 hh14 hx14 => ?_)
    · refine x_iconst 98 dX6_town_97 rfl ?_
      refine x_iret dX6_town_98 rfl ⟨rfl, Nat.le_refl _⟩ (qi_i ?_)
      refine PC.same hC ?_
      unfold aTown
      first | (rw [if_neg (by omega)]; done) | (rw [if_pos ht2]; first | (subst hx14; first | exact q1 | exact q2 | exact q3 | exact q4 | rfl) | (rw [if_neg (by omega), if_neg (by omega), if_neg (by omega), if_neg (by omega), if_neg (by omega)]))
    · rcases (show c14 = 0 ∨ c14 = 1 ∨ c14 = 2 ∨ c14 = 3 ∨ c14 = 4 by omega) with rfl | rfl | rfl | rfl | rfl
      · refine ⟨34, 48, rfl, by decide, ?_⟩
        refine x_aload_n 49 0 dX6_town_48 rfl rfl (by decide) rfl ?_
        refine x_getR 52 2 4 dX6_town_49 rfl fX6_24 rfl rfl rfl ?_
        refine x_getR 55 0 5 dX6_town_52 rfl fX6_123 rfl rfl rfl ?_
        refine x_iload_n 56 1 dX6_town_55 rfl rfl (by decide) rfl ?_
        refine x_iaload 57 dX6_town_56 rfl rfl (by omega) (fun g56 => ?_)
        refine x_iret dX6_town_57 rfl ⟨rfl, Nat.le_refl _⟩ (qi_i ?_)
        refine PC.same hC ?_
        unfold aTown
        first | (rw [if_neg (by omega)]; done) | (rw [if_pos ht2]; first | (subst hx14; first | exact q1 | exact q2 | exact q3 | exact q4 | rfl) | (rw [if_neg (by omega), if_neg (by omega), if_neg (by omega), if_neg (by omega), if_neg (by omega)]))
      · refine ⟨44, 58, rfl, by decide, ?_⟩
        refine x_aload_n 59 0 dX6_town_58 rfl rfl (by decide) rfl ?_
        refine x_getR 62 2 4 dX6_town_59 rfl fX6_24 rfl rfl rfl ?_
        refine x_getR 65 1 6 dX6_town_62 rfl fX6_126 rfl rfl rfl ?_
        refine x_iload_n 66 1 dX6_town_65 rfl rfl (by decide) rfl ?_
        refine x_iaload 67 dX6_town_66 rfl rfl (by omega) (fun g66 => ?_)
        refine x_iret dX6_town_67 rfl ⟨rfl, Nat.le_refl _⟩ (qi_i ?_)
        refine PC.same hC ?_
        unfold aTown
        first | (rw [if_neg (by omega)]; done) | (rw [if_pos ht2]; first | (subst hx14; first | exact q1 | exact q2 | exact q3 | exact q4 | rfl) | (rw [if_neg (by omega), if_neg (by omega), if_neg (by omega), if_neg (by omega), if_neg (by omega)]))
      · refine ⟨54, 68, rfl, by decide, ?_⟩
        refine x_aload_n 69 0 dX6_town_68 rfl rfl (by decide) rfl ?_
        refine x_getR 72 2 4 dX6_town_69 rfl fX6_24 rfl rfl rfl ?_
        refine x_getR 75 2 7 dX6_town_72 rfl fX6_129 rfl rfl rfl ?_
        refine x_iload_n 76 1 dX6_town_75 rfl rfl (by decide) rfl ?_
        refine x_iaload 77 dX6_town_76 rfl rfl (by omega) (fun g76 => ?_)
        refine x_iret dX6_town_77 rfl ⟨rfl, Nat.le_refl _⟩ (qi_i ?_)
        refine PC.same hC ?_
        unfold aTown
        first | (rw [if_neg (by omega)]; done) | (rw [if_pos ht2]; first | (subst hx14; first | exact q1 | exact q2 | exact q3 | exact q4 | rfl) | (rw [if_neg (by omega), if_neg (by omega), if_neg (by omega), if_neg (by omega), if_neg (by omega)]))
      · refine ⟨64, 78, rfl, by decide, ?_⟩
        refine x_aload_n 79 0 dX6_town_78 rfl rfl (by decide) rfl ?_
        refine x_getR 82 2 4 dX6_town_79 rfl fX6_24 rfl rfl rfl ?_
        refine x_getR 85 3 8 dX6_town_82 rfl fX6_132 rfl rfl rfl ?_
        refine x_iload_n 86 1 dX6_town_85 rfl rfl (by decide) rfl ?_
        refine x_iaload 87 dX6_town_86 rfl rfl (by omega) (fun g86 => ?_)
        refine x_iret dX6_town_87 rfl ⟨rfl, Nat.le_refl _⟩ (qi_i ?_)
        refine PC.same hC ?_
        unfold aTown
        first | (rw [if_neg (by omega)]; done) | (rw [if_pos ht2]; first | (subst hx14; first | exact q1 | exact q2 | exact q3 | exact q4 | rfl) | (rw [if_neg (by omega), if_neg (by omega), if_neg (by omega), if_neg (by omega), if_neg (by omega)]))
      · refine ⟨74, 88, rfl, by decide, ?_⟩
        refine x_aload_n 89 0 dX6_town_88 rfl rfl (by decide) rfl ?_
        refine x_getR 92 2 4 dX6_town_89 rfl fX6_24 rfl rfl rfl ?_
        refine x_iload_n 93 1 dX6_town_92 rfl rfl (by decide) rfl ?_
        refine x_vp 96 [_] (c_plays (o := 4) (Or.inl rfl) hV oV t (by omega)) mX1_playsNow kX6_135 dX6_town_93 rfl rfl ⟨by decide, rfl⟩ rfl rfl (Nat.le_of_ble_eq_true rfl) (by decide) ?_
        refine x_iret dX6_town_96 rfl ⟨rfl, Nat.le_refl _⟩ (qi_i ?_)
        refine PC.same hC ?_
        unfold aTown
        first | (rw [if_neg (by omega)]; done) | (rw [if_pos ht2]; first | (subst hx14; first | exact q1 | exact q2 | exact q3 | exact q4 | rfl) | (rw [if_neg (by omega), if_neg (by omega), if_neg (by omega), if_neg (by omega), if_neg (by omega)]))
  · refine x_iconst 12 dX6_town_11 rfl ?_
    refine x_iret dX6_town_12 rfl ⟨rfl, Nat.le_refl _⟩ (qi_i ?_)
    refine PC.same hC ?_
    unfold aTown
    first | (rw [if_neg (by omega)]; done) | (rw [if_pos ht2]; first | (subst hx14; first | exact q1 | exact q2 | exact q3 | exact q4 | rfl) | (rw [if_neg (by omega), if_neg (by omega), if_neg (by omega), if_neg (by omega), if_neg (by omega)]))

set_option maxHeartbeats 4000000 in
theorem p_fixture {g : GG} {M : Mem} {s : ST} (hC : Cls M s) (hO : SOK s) (i w : Int) (hi : -2147483648 ≤ i ∧ i ≤ 2147483647) (hw : -2147483648 ≤ w ∧ w ≤ 2147483647) : CI g tX6_fixture 1 [rv g 0, iv i, iv w] M (PC M (aFix s i w) s) := by
  refine Con.of [some (rv g 0), some (iv i), some (iv w)] (by decide +kernel) rfl (Nat.le_of_ble_eq_true rfl) ?_
  obtain ⟨hV, ⟨hk0, hk1, hi0, hi1⟩, ⟨hT1, hT2⟩, ⟨hS1, hS2⟩, hZ, hN, hF⟩ := id hC
  obtain ⟨oV, oW, oI0, oI1, oT, oTb, oS, oSb, oZ⟩ := id hO
  obtain ⟨e6, e7, e8, e4, e5⟩ := id hV
  have o1 := oV.1
  have o2 := oV.2.1
  have o3 := oV.2.2.1
  refine x_aload_n 1 0 dX6_fixture_0 rfl rfl (by decide) rfl ?_
  refine x_getR 4 2 4 dX6_fixture_1 rfl fX6_24 rfl rfl rfl ?_
  refine x_iload_n 5 1 dX6_fixture_4 rfl rfl (by decide) rfl ?_
  refine x_vp 8 [_] (c_hasFixture (o := 4) (Or.inl rfl) i hi) mX1_hasFixture kX6_139 dX6_fixture_5 rfl rfl ⟨by decide, rfl⟩ rfl rfl (Nat.le_of_ble_eq_true rfl) (by decide) ?_
  refine x_ifeq_b 19 11 dX6_fixture_8 (by decide) rfl (fun h8 => ?_) (fun h8 => ?_)
  · refine x_iconst 20 dX6_fixture_19 rfl ?_
    refine x_iret dX6_fixture_20 rfl ⟨rfl, Nat.le_refl _⟩ (qi_i ?_)
    refine PC.same hC ?_
    unfold aFix
    first | (rw [if_neg (by omega)]; done) | (rw [if_pos (by omega), if_pos (by omega)]; exact q1) | (rw [if_pos (by omega), if_neg (by omega)]; exact q2)
  · refine x_iload_n 12 2 dX6_fixture_11 rfl rfl (by decide) rfl ?_
    refine x_iconst 13 dX6_fixture_12 rfl ?_
    refine x_sp 16 [_, _] (c_within _ _ (by omega) (by omega)) mX6_within kX6_70 dX6_fixture_13 rfl rfl rfl (Nat.le_of_ble_eq_true rfl) (by decide) ?_
    refine x_ifne_b 21 19 dX6_fixture_16 (by decide) rfl (fun h16 => ?_) (fun h16 => ?_)
    · obtain ⟨q1, q2⟩ := e5 i (by omega) (by omega)
      refine x_iload_n 22 2 dX6_fixture_21 rfl rfl (by decide) rfl ?_
      refine x_if_ne 37 25 dX6_fixture_22 (by decide) rfl (by omega) (fun h22 => ?_) (fun h22 => ?_)
      · refine x_aload_n 38 0 dX6_fixture_37 rfl rfl (by decide) rfl ?_
        refine x_getR 41 2 4 dX6_fixture_38 rfl fX6_24 rfl rfl rfl ?_
        refine x_getR 44 5 10 dX6_fixture_41 rfl fX6_145 rfl rfl rfl ?_
        refine x_iload_n 45 1 dX6_fixture_44 rfl rfl (by decide) rfl ?_
        refine x_iaload 46 dX6_fixture_45 rfl rfl (by omega) (fun g45 => ?_)
        refine x_iret dX6_fixture_46 rfl ⟨rfl, Nat.le_refl _⟩ (qi_i ?_)
        refine PC.same hC ?_
        unfold aFix
        first | (rw [if_neg (by omega)]; done) | (rw [if_pos (by omega), if_pos (by omega)]; exact q1) | (rw [if_pos (by omega), if_neg (by omega)]; exact q2)
      · refine x_aload_n 26 0 dX6_fixture_25 rfl rfl (by decide) rfl ?_
        refine x_getR 29 2 4 dX6_fixture_26 rfl fX6_24 rfl rfl rfl ?_
        refine x_getR 32 4 9 dX6_fixture_29 rfl fX6_142 rfl rfl rfl ?_
        refine x_iload_n 33 1 dX6_fixture_32 rfl rfl (by decide) rfl ?_
        refine x_iaload 34 dX6_fixture_33 rfl rfl (by omega) (fun g33 => ?_)
        refine x_goto 46 dX6_fixture_34 (by decide) ?_
        refine x_iret dX6_fixture_46 rfl ⟨rfl, Nat.le_refl _⟩ (qi_i ?_)
        refine PC.same hC ?_
        unfold aFix
        first | (rw [if_neg (by omega)]; done) | (rw [if_pos (by omega), if_pos (by omega)]; exact q1) | (rw [if_pos (by omega), if_neg (by omega)]; exact q2)
    · refine x_iconst 20 dX6_fixture_19 rfl ?_
      refine x_iret dX6_fixture_20 rfl ⟨rfl, Nat.le_refl _⟩ (qi_i ?_)
      refine PC.same hC ?_
      unfold aFix
      first | (rw [if_neg (by omega)]; done) | (rw [if_pos (by omega), if_pos (by omega)]; exact q1) | (rw [if_pos (by omega), if_neg (by omega)]; exact q2)

set_option maxHeartbeats 4000000 in
theorem p_game {g : GG} {M : Mem} {s : ST} (hC : Cls M s) (hO : SOK s) (a b : Int) (ha : -2147483648 ≤ a ∧ a ≤ 2147483647) (hb : -2147483648 ≤ b ∧ b ≤ 2147483647) : CI g tX6_game 3 [rv g 0, iv a, iv b] M (PC M (aGame s a b) s) := by
  refine Con.of [some (rv g 0), some (iv a), some (iv b)] (by decide +kernel) rfl (Nat.le_of_ble_eq_true rfl) ?_
  obtain ⟨hV, ⟨hk0, hk1, hi0, hi1⟩, ⟨hT1, hT2⟩, ⟨hS1, hS2⟩, hZ, hN, hF⟩ := id hC
  obtain ⟨oV, oW, oI0, oI1, oT, oTb, oS, oSb, oZ⟩ := id hO
  obtain ⟨e6, e7, e8, e4, e5⟩ := id hV
  have o1 := oV.1
  have o2 := oV.2.1
  have o3 := oV.2.2.1
  refine x_aload_n 1 0 dX6_game_0 rfl rfl (by decide) rfl ?_
  refine x_getR 4 2 4 dX6_game_1 rfl fX6_24 rfl rfl rfl ?_
  refine x_iload_n 5 1 dX6_game_4 rfl rfl (by decide) rfl ?_
  refine x_iload_n 6 2 dX6_game_5 rfl rfl (by decide) rfl ?_
  refine x_vp 9 [_, _] (c_hasPair (o := 4) (Or.inl rfl) a b ha hb) mX1_hasPair kX6_148 dX6_game_6 rfl rfl ⟨by decide, rfl⟩ rfl rfl (Nat.le_of_ble_eq_true rfl) (by decide) ?_
  refine x_ifeq_b 24 12 dX6_game_9 (by decide) rfl (fun h9 => ?_) (fun h9 => ?_)
  · refine x_iconst 25 dX6_game_24 rfl ?_
    refine x_iret dX6_game_25 rfl ⟨rfl, Nat.le_refl _⟩ (qi_i ?_)
    refine PC.same hC ?_
    unfold aGame pairB
    first | (rw [if_pos (decide_eq_true (by omega))]; done) | (rw [if_neg (by rw [decide_eq_true_eq]; omega)])
  · refine x_aload_n 13 0 dX6_game_12 rfl rfl (by decide) rfl ?_
    refine x_getR 16 2 4 dX6_game_13 rfl fX6_24 rfl rfl rfl ?_
    refine x_iload_n 17 1 dX6_game_16 rfl rfl (by decide) rfl ?_
    refine x_iload_n 18 2 dX6_game_17 rfl rfl (by decide) rfl ?_
    refine x_vp 21 [_, _] (c_weaker (o := 4) (Or.inl rfl) hV oV a b (by omega) (by omega)) mX1_weaker kX6_151 dX6_game_18 rfl rfl ⟨by decide, rfl⟩ rfl rfl (Nat.le_of_ble_eq_true rfl) (by decide) ?_
    refine x_goto 25 dX6_game_21 (by decide) ?_
    refine x_iret dX6_game_25 rfl ⟨rfl, Nat.le_refl _⟩ (qi_i ?_)
    refine PC.same hC ?_
    unfold aGame pairB
    first | (rw [if_pos (decide_eq_true (by omega))]; done) | (rw [if_neg (by rw [decide_eq_true_eq]; omega)])

set_option maxHeartbeats 4000000 in
theorem c_replace {g : GG} {M : Mem} {q : Nat} (hq : S0[q]? = some (.inr (0, 5))) (t v m : Int) (ht : -2147483648 ≤ t ∧ t ≤ 2147483647) (hv : -2147483648 ≤ v ∧ v ≤ 2147483647) (hm : 0 ≤ m ∧ m ≤ 99) : CI g tX6_replace 1 [rv g q, iv t, iv v, iv m] M (fun r M2 => ((0 ≤ v ∧ v ≤ m) ∧ (0 ≤ t ∧ t ≤ 4) → r = M q t ∧ M2 = up2 M q t v) ∧ (¬ ((0 ≤ v ∧ v ≤ m) ∧ (0 ≤ t ∧ t ≤ 4)) → r = -1 ∧ M2 = M)) := by
  refine Con.of [some (rv g q), some (iv t), some (iv v), some (iv m), none] (by decide +kernel) rfl (Nat.le_of_ble_eq_true rfl) ?_
  refine x_iload_n 1 2 dX6_replace_0 rfl rfl (by decide) rfl ?_
  refine x_iload_n 2 3 dX6_replace_1 rfl rfl (by decide) rfl ?_
  refine x_sp 5 [_, _] (c_within _ _ (by omega) (by omega)) mX6_within kX6_70 dX6_replace_2 rfl rfl rfl (Nat.le_of_ble_eq_true rfl) (by decide) ?_
  refine x_ifeq_b 19 8 dX6_replace_5 (by decide) rfl (fun h5 => ?_) (fun h5 => ?_)
  · refine x_iconst 20 dX6_replace_19 rfl ?_
    refine x_iret dX6_replace_20 rfl ⟨rfl, Nat.le_refl _⟩ (qi_i ?_)
    exact ⟨fun z => by omega, fun _ => ⟨rfl, rfl⟩⟩
  · refine x_iload_n 9 1 dX6_replace_8 rfl rfl (by decide) rfl ?_
    refine x_aload_n 10 0 dX6_replace_9 rfl rfl (by decide) rfl ?_
    refine x_alen 11 (by decide) dX6_replace_10 rfl hq 5 rfl ?_
    refine x_iconst 12 dX6_replace_11 rfl ?_
    refine x_isub 13 dX6_replace_12 rfl ?_
    refine x_sp 16 [_, _] (c_within _ _ (by omega) (by omega)) mX6_within kX6_70 dX6_replace_13 rfl rfl rfl (Nat.le_of_ble_eq_true rfl) (by decide) ?_
    refine x_ifne_b 21 19 dX6_replace_16 (by decide) rfl (fun h16 => ?_) (fun h16 => ?_)
    · refine x_aload_n 22 0 dX6_replace_21 rfl rfl (by decide) rfl ?_
      refine x_iload_n 23 1 dX6_replace_22 rfl rfl (by decide) rfl ?_
      refine x_iaload 24 dX6_replace_23 rfl hq (by omega) (fun g23 => ?_)
      refine x_istore 26 4 _ dX6_replace_24 rfl (by decide) rfl rfl ?_
      refine x_aload_n 27 0 dX6_replace_26 rfl rfl (by decide) rfl ?_
      refine x_iload_n 28 1 dX6_replace_27 rfl rfl (by decide) rfl ?_
      refine x_iload_n 29 2 dX6_replace_28 rfl rfl (by decide) rfl ?_
      refine x_iastore 30 dX6_replace_29 rfl hq (by omega) (by omega) ?_
      refine x_iload 32 4 dX6_replace_30 rfl (by decide) rfl ?_
      refine x_iret dX6_replace_32 rfl ⟨rfl, Nat.le_refl _⟩ (qi_i ?_)
      exact ⟨fun _ => ⟨rfl, rfl⟩, fun z => absurd (by omega) z⟩
    · refine x_iconst 20 dX6_replace_19 rfl ?_
      refine x_iret dX6_replace_20 rfl ⟨rfl, Nat.le_refl _⟩ (qi_i ?_)
      exact ⟨fun z => by omega, fun _ => ⟨rfl, rfl⟩⟩

set_option maxHeartbeats 4000000 in
theorem p_alter {g : GG} {M : Mem} {s : ST} (hC : Cls M s) (hO : SOK s) (t w x : Int) (ht : -2147483648 ≤ t ∧ t ≤ 2147483647) (hw : -2147483648 ≤ w ∧ w ≤ 2147483647) (hx : -2147483648 ≤ x ∧ x ≤ 2147483647) : CI g tX6_alter 2 [rv g 0, iv t, iv w, iv x] M (PC M (aAlter s t w x) (nAlter s t w x)) := by
  refine Con.of [some (rv g 0), some (iv t), some (iv w), some (iv x)] (by decide +kernel) rfl (Nat.le_of_ble_eq_true rfl) ?_
  obtain ⟨hV, ⟨hk0, hk1, hi0, hi1⟩, ⟨hT1, hT2⟩, ⟨hS1, hS2⟩, hZ, hN, hF⟩ := id hC
  obtain ⟨oV, oW, oI0, oI1, oT, oTb, oS, oSb, oZ⟩ := id hO
  obtain ⟨e6, e7, e8, e4, e5⟩ := id hV
  have o1 := oV.1
  have o2 := oV.2.1
  have o3 := oV.2.2.1
  refine x_aload_n 1 0 dX6_alter_0 rfl rfl (by decide) rfl ?_
  refine x_getR 4 2 4 dX6_alter_1 rfl fX6_24 rfl rfl rfl ?_
  refine x_iload_n 5 1 dX6_alter_4 rfl rfl (by decide) rfl ?_
  refine x_vp 8 [_] (c_hasTown (o := 4) (Or.inl rfl) t ht) mX1_hasTown kX6_120 dX6_alter_5 rfl rfl ⟨by decide, rfl⟩ rfl rfl (Nat.le_of_ble_eq_true rfl) (by decide) ?_
  refine x_ifne_b 13 11 dX6_alter_8 (by decide) rfl (fun h8 => ?_) (fun h8 => ?_)
  · have ht2 : 0 ≤ t ∧ t < vn (sV s) := by omega
    obtain ⟨q1, q2, q3, q4⟩ := e4 t ht2.1 ht2.2
    refine x_iload_n 14 2 dX6_alter_13 rfl rfl (by decide) rfl ?_
    refine x_tsw 103 dX6_alter_14 (by decide) (by omega) (fun h14 => ?_) (fun c14 hl14 hh14 hx14 => ?_)
    · refine x_iconst 104 dX6_alter_103 rfl ?_
      refine x_iret dX6_alter_104 rfl ⟨rfl, Nat.le_refl _⟩ (qi_i ?_)
      have y1 : aAlter s t w x = -1 := by (unfold aAlter; rw [if_neg (by omega)])
      have y2 : nAlter s t w x = s := by (unfold nAlter; rw [if_neg (by omega)])
      rw [y1, y2]; exact PC.same hC rfl
    · rcases (show c14 = 0 ∨ c14 = 1 ∨ c14 = 2 ∨ c14 = 3 by omega) with rfl | rfl | rfl | rfl
      · refine ⟨30, 44, rfl, by decide, ?_⟩
        refine x_aload_n 45 0 dX6_alter_44 rfl rfl (by decide) rfl ?_
        refine x_getR 48 2 4 dX6_alter_45 rfl fX6_24 rfl rfl rfl ?_
        refine x_getR 51 0 5 dX6_alter_48 rfl fX6_123 rfl rfl rfl ?_
        refine x_iload_n 52 1 dX6_alter_51 rfl rfl (by decide) rfl ?_
        refine x_iload_n 53 3 dX6_alter_52 rfl rfl (by decide) rfl ?_
        refine x_iconst 54 dX6_alter_53 rfl ?_
        refine x_si 57 [_, _, _, _] (c_replace (q := 5) rfl t x 3 ht hx (by omega)) mX6_replace kX6_155 dX6_alter_54 rfl rfl rfl (Nat.le_of_ble_eq_true rfl) (by decide) (fun r2 M2 q2 => ?_)
        obtain ⟨ya, yb⟩ := q2
        refine x_iret dX6_alter_57 rfl ⟨rfl, Nat.le_refl _⟩ (qi_i ?_)
        subst hx14
        by_cases hc : 0 ≤ x ∧ x ≤ altM 0
        · obtain ⟨rfl, rfl⟩ := ya ⟨hc, by omega⟩
          have y1 : aAlter s t 0 x = vK (sV s) t := by (unfold aAlter; rw [if_pos ⟨ht2, by omega, hc⟩]; rfl)
          have y2 : nAlter s t 0 x = uV s (setK (sV s) (fu (vK (sV s)) t x)) := by (unfold nAlter; rw [if_pos ⟨ht2, by omega, hc⟩]; rfl)
          rw [y1, y2]
          exact PC.lg hC q1 (Rep_K hV t x) ((Fr.rf 4 M).up _ _ _ (by omega))
        · obtain ⟨rfl, rfl⟩ := yb (fun z => hc z.1)
          have y1 : aAlter s t 0 x = -1 := by (unfold aAlter; rw [if_neg (fun z => hc z.2.2)])
          have y2 : nAlter s t 0 x = s := by (unfold nAlter; rw [if_neg (fun z => hc z.2.2)])
          rw [y1, y2]; exact PC.same hC rfl
      · refine ⟨44, 58, rfl, by decide, ?_⟩
        refine x_aload_n 59 0 dX6_alter_58 rfl rfl (by decide) rfl ?_
        refine x_getR 62 2 4 dX6_alter_59 rfl fX6_24 rfl rfl rfl ?_
        refine x_getR 65 1 6 dX6_alter_62 rfl fX6_126 rfl rfl rfl ?_
        refine x_iload_n 66 1 dX6_alter_65 rfl rfl (by decide) rfl ?_
        refine x_iload_n 67 3 dX6_alter_66 rfl rfl (by decide) rfl ?_
        refine x_bipush 69 dX6_alter_67 rfl (by decide) ?_
        refine x_si 72 [_, _, _, _] (c_replace (q := 6) rfl t x 20 ht hx (by omega)) mX6_replace kX6_155 dX6_alter_69 rfl rfl rfl (Nat.le_of_ble_eq_true rfl) (by decide) (fun r2 M2 q2 => ?_)
        obtain ⟨ya, yb⟩ := q2
        refine x_iret dX6_alter_72 rfl ⟨rfl, Nat.le_refl _⟩ (qi_i ?_)
        subst hx14
        by_cases hc : 0 ≤ x ∧ x ≤ altM 1
        · obtain ⟨rfl, rfl⟩ := ya ⟨hc, by omega⟩
          have y1 : aAlter s t 1 x = vS (sV s) t := by (unfold aAlter; rw [if_pos ⟨ht2, by omega, hc⟩]; rfl)
          have y2 : nAlter s t 1 x = uV s (setS (sV s) (fu (vS (sV s)) t x)) := by (unfold nAlter; rw [if_pos ⟨ht2, by omega, hc⟩]; rfl)
          rw [y1, y2]
          exact PC.lg hC q2 (Rep_S hV t x) ((Fr.rf 4 M).up _ _ _ (by omega))
        · obtain ⟨rfl, rfl⟩ := yb (fun z => hc z.1)
          have y1 : aAlter s t 1 x = -1 := by (unfold aAlter; rw [if_neg (fun z => hc z.2.2)])
          have y2 : nAlter s t 1 x = s := by (unfold nAlter; rw [if_neg (fun z => hc z.2.2)])
          rw [y1, y2]; exact PC.same hC rfl
      · refine ⟨59, 73, rfl, by decide, ?_⟩
        refine x_aload_n 74 0 dX6_alter_73 rfl rfl (by decide) rfl ?_
        refine x_getR 77 2 4 dX6_alter_74 rfl fX6_24 rfl rfl rfl ?_
        refine x_getR 80 2 7 dX6_alter_77 rfl fX6_129 rfl rfl rfl ?_
        refine x_iload_n 81 1 dX6_alter_80 rfl rfl (by decide) rfl ?_
        refine x_iload_n 82 3 dX6_alter_81 rfl rfl (by decide) rfl ?_
        refine x_bipush 84 dX6_alter_82 rfl (by decide) ?_
        refine x_si 87 [_, _, _, _] (c_replace (q := 7) rfl t x 99 ht hx (by omega)) mX6_replace kX6_155 dX6_alter_84 rfl rfl rfl (Nat.le_of_ble_eq_true rfl) (by decide) (fun r2 M2 q2 => ?_)
        obtain ⟨ya, yb⟩ := q2
        refine x_iret dX6_alter_87 rfl ⟨rfl, Nat.le_refl _⟩ (qi_i ?_)
        subst hx14
        by_cases hc : 0 ≤ x ∧ x ≤ altM 2
        · obtain ⟨rfl, rfl⟩ := ya ⟨hc, by omega⟩
          have y1 : aAlter s t 2 x = vL (sV s) t := by (unfold aAlter; rw [if_pos ⟨ht2, by omega, hc⟩]; rfl)
          have y2 : nAlter s t 2 x = uV s (setL (sV s) (fu (vL (sV s)) t x)) := by (unfold nAlter; rw [if_pos ⟨ht2, by omega, hc⟩]; rfl)
          rw [y1, y2]
          exact PC.lg hC q3 (Rep_L hV t x) ((Fr.rf 4 M).up _ _ _ (by omega))
        · obtain ⟨rfl, rfl⟩ := yb (fun z => hc z.1)
          have y1 : aAlter s t 2 x = -1 := by (unfold aAlter; rw [if_neg (fun z => hc z.2.2)])
          have y2 : nAlter s t 2 x = s := by (unfold nAlter; rw [if_neg (fun z => hc z.2.2)])
          rw [y1, y2]; exact PC.same hC rfl
      · refine ⟨74, 88, rfl, by decide, ?_⟩
        refine x_aload_n 89 0 dX6_alter_88 rfl rfl (by decide) rfl ?_
        refine x_getR 92 2 4 dX6_alter_89 rfl fX6_24 rfl rfl rfl ?_
        refine x_getR 95 3 8 dX6_alter_92 rfl fX6_132 rfl rfl rfl ?_
        refine x_iload_n 96 1 dX6_alter_95 rfl rfl (by decide) rfl ?_
        refine x_iload_n 97 3 dX6_alter_96 rfl rfl (by decide) rfl ?_
        refine x_bipush 99 dX6_alter_97 rfl (by decide) ?_
        refine x_si 102 [_, _, _, _] (c_replace (q := 8) rfl t x 99 ht hx (by omega)) mX6_replace kX6_155 dX6_alter_99 rfl rfl rfl (Nat.le_of_ble_eq_true rfl) (by decide) (fun r2 M2 q2 => ?_)
        obtain ⟨ya, yb⟩ := q2
        refine x_iret dX6_alter_102 rfl ⟨rfl, Nat.le_refl _⟩ (qi_i ?_)
        subst hx14
        by_cases hc : 0 ≤ x ∧ x ≤ altM 3
        · obtain ⟨rfl, rfl⟩ := ya ⟨hc, by omega⟩
          have y1 : aAlter s t 3 x = vO (sV s) t := by (unfold aAlter; rw [if_pos ⟨ht2, by omega, hc⟩]; rfl)
          have y2 : nAlter s t 3 x = uV s (setO (sV s) (fu (vO (sV s)) t x)) := by (unfold nAlter; rw [if_pos ⟨ht2, by omega, hc⟩]; rfl)
          rw [y1, y2]
          exact PC.lg hC q4 (Rep_O hV t x) ((Fr.rf 4 M).up _ _ _ (by omega))
        · obtain ⟨rfl, rfl⟩ := yb (fun z => hc z.1)
          have y1 : aAlter s t 3 x = -1 := by (unfold aAlter; rw [if_neg (fun z => hc z.2.2)])
          have y2 : nAlter s t 3 x = s := by (unfold nAlter; rw [if_neg (fun z => hc z.2.2)])
          rw [y1, y2]; exact PC.same hC rfl
  · refine x_iconst 12 dX6_alter_11 rfl ?_
    refine x_iret dX6_alter_12 rfl ⟨rfl, Nat.le_refl _⟩ (qi_i ?_)
    have y1 : aAlter s t w x = -1 := by (unfold aAlter; rw [if_neg (by omega)])
    have y2 : nAlter s t w x = s := by (unfold nAlter; rw [if_neg (by omega)])
    rw [y1, y2]; exact PC.same hC rfl

set_option maxHeartbeats 4000000 in
theorem p_lend {g : GG} {M : Mem} {s : ST} (hC : Cls M s) (hO : SOK s) (a b n : Int) (ha : -2147483648 ≤ a ∧ a ≤ 2147483647) (hb : -2147483648 ≤ b ∧ b ≤ 2147483647) (hn : -2147483648 ≤ n ∧ n ≤ 2147483647) : CI g tX6_lend 2 [rv g 0, iv a, iv b, iv n] M (PC M (aLend s a b n) (nLend s a b n)) := by
  refine Con.of [some (rv g 0), some (iv a), some (iv b), some (iv n)] (by decide +kernel) rfl (Nat.le_of_ble_eq_true rfl) ?_
  obtain ⟨hV, ⟨hk0, hk1, hi0, hi1⟩, ⟨hT1, hT2⟩, ⟨hS1, hS2⟩, hZ, hN, hF⟩ := id hC
  obtain ⟨oV, oW, oI0, oI1, oT, oTb, oS, oSb, oZ⟩ := id hO
  obtain ⟨e6, e7, e8, e4, e5⟩ := id hV
  have o1 := oV.1
  have o2 := oV.2.1
  have o3 := oV.2.2.1
  refine x_aload_n 1 0 dX6_lend_0 rfl rfl (by decide) rfl ?_
  refine x_getR 4 2 4 dX6_lend_1 rfl fX6_24 rfl rfl rfl ?_
  refine x_iload_n 5 1 dX6_lend_4 rfl rfl (by decide) rfl ?_
  refine x_iload_n 6 2 dX6_lend_5 rfl rfl (by decide) rfl ?_
  refine x_vp 9 [_, _] (c_hasPair (o := 4) (Or.inl rfl) a b ha hb) mX1_hasPair kX6_148 dX6_lend_6 rfl rfl ⟨by decide, rfl⟩ rfl rfl (Nat.le_of_ble_eq_true rfl) (by decide) ?_
  refine x_ifeq_b 21 12 dX6_lend_9 (by decide) rfl (fun h9 => ?_) (fun h9 => ?_)
  · refine x_iconst 22 dX6_lend_21 rfl ?_
    refine x_iret dX6_lend_22 rfl ⟨rfl, Nat.le_refl _⟩ (qi_i ?_)
    have y1 : aLend s a b n = -1 := by (unfold aLend pairB; rw [if_neg (by rw [decide_eq_true_eq]; omega)])
    have y2 : nLend s a b n = s := by (unfold nLend pairB; rw [if_neg (by rw [decide_eq_true_eq]; omega)])
    rw [y1, y2]; exact PC.same hC rfl
  · refine x_iload_n 13 3 dX6_lend_12 rfl rfl (by decide) rfl ?_
    refine x_bipush 15 dX6_lend_13 rfl (by decide) ?_
    refine x_sp 18 [_, _] (c_within _ _ (by omega) (by omega)) mX6_within kX6_70 dX6_lend_15 rfl rfl rfl (Nat.le_of_ble_eq_true rfl) (by decide) ?_
    refine x_ifne_b 23 21 dX6_lend_18 (by decide) rfl (fun h18 => ?_) (fun h18 => ?_)
    · refine x_aload_n 24 0 dX6_lend_23 rfl rfl (by decide) rfl ?_
      refine x_getR 27 2 4 dX6_lend_24 rfl fX6_24 rfl rfl rfl ?_
      refine x_iload_n 28 1 dX6_lend_27 rfl rfl (by decide) rfl ?_
      refine x_iload_n 29 2 dX6_lend_28 rfl rfl (by decide) rfl ?_
      refine x_iload_n 30 3 dX6_lend_29 rfl rfl (by decide) rfl ?_
      refine x_vi 33 [_, _, _] (c_moveStrength (o := 4) (Or.inl rfl) hV oV a b n (by omega) (by omega) (by omega) (by omega)) mX1_moveStrength kX6_159 dX6_lend_30 rfl rfl ⟨by decide, rfl⟩ rfl rfl (Nat.le_of_ble_eq_true rfl) (by decide) (fun r2 M2 q2 => ?_)
      obtain ⟨rfl, hR2, hF2⟩ := q2
      refine x_iret dX6_lend_33 rfl ⟨rfl, Nat.le_refl _⟩ (qi_i ?_)
      have y1 : aLend s a b n = lendR (sV s) a b n := by (unfold aLend pairB; rw [if_pos (by rw [decide_eq_true_eq]; omega)])
      have y2 : nLend s a b n = uV s (lendV (sV s) a b n) := by (unfold nLend pairB; rw [if_pos (by rw [decide_eq_true_eq]; omega)])
      rw [y1, y2]; exact PC.lg hC rfl hR2 hF2
    · refine x_iconst 22 dX6_lend_21 rfl ?_
      refine x_iret dX6_lend_22 rfl ⟨rfl, Nat.le_refl _⟩ (qi_i ?_)
      have y1 : aLend s a b n = -1 := by (unfold aLend pairB; rw [if_neg (by rw [decide_eq_true_eq]; omega)])
      have y2 : nLend s a b n = s := by (unfold nLend pairB; rw [if_neg (by rw [decide_eq_true_eq]; omega)])
      rw [y1, y2]; exact PC.same hC rfl

def aBook (s : ST) (a b : Int) : Int := bookR (sV s) a b
def nBook (s : ST) (a b : Int) : ST := uV s (bookV (sV s) a b)

set_option maxHeartbeats 4000000 in
theorem p_book {g : GG} {M : Mem} {s : ST} (hC : Cls M s) (hO : SOK s) (a b : Int) (ha : -2147483648 ≤ a ∧ a ≤ 2147483647) (hb : -2147483648 ≤ b ∧ b ≤ 2147483647) : CI g tX6_book 3 [rv g 0, iv a, iv b] M (PC M (aBook s a b) (nBook s a b)) := by
  refine Con.of [some (rv g 0), some (iv a), some (iv b)] (by decide +kernel) rfl (Nat.le_of_ble_eq_true rfl) ?_
  obtain ⟨hV, ⟨hk0, hk1, hi0, hi1⟩, ⟨hT1, hT2⟩, ⟨hS1, hS2⟩, hZ, hN, hF⟩ := id hC
  obtain ⟨oV, oW, oI0, oI1, oT, oTb, oS, oSb, oZ⟩ := id hO
  obtain ⟨e6, e7, e8, e4, e5⟩ := id hV
  have o1 := oV.1
  have o2 := oV.2.1
  have o3 := oV.2.2.1
  refine x_aload_n 1 0 dX6_book_0 rfl rfl (by decide) rfl ?_
  refine x_getR 4 2 4 dX6_book_1 rfl fX6_24 rfl rfl rfl ?_
  refine x_iload_n 5 1 dX6_book_4 rfl rfl (by decide) rfl ?_
  refine x_iload_n 6 2 dX6_book_5 rfl rfl (by decide) rfl ?_
  refine x_vi 9 [_, _] (c_addFixture (o := 4) (Or.inl rfl) hV (by omega) a b ha hb) mX1_addFixture kX6_163 dX6_book_6 rfl rfl ⟨by decide, rfl⟩ rfl rfl (Nat.le_of_ble_eq_true rfl) (by decide) (fun r2 M2 q2 => ?_)
  obtain ⟨rfl, hR2, hF2⟩ := q2
  refine x_iret dX6_book_9 rfl ⟨rfl, Nat.le_refl _⟩ (qi_i ?_)
  exact PC.lg hC rfl hR2 hF2

theorem Rep_F {M : Mem} {o : Nat} {v : LV} (h : Rep M o v) (x : Int) (hx : x ≤ vf v) : Rep (up2 M o 7 x) o (setF v x) := by
  obtain ⟨r1, r2, r3, r4, r5⟩ := h
  have q (j : Nat) (hj : 0 < j) : up2 M o 7 x (o + j) = M (o + j) := up2_o _ _ _ (by omega)
  refine ⟨(up2_k _ _ _ (by omega)).trans r1, up2_s _ _ _ _, (up2_k _ _ _ (by omega)).trans r3, fun t a b => ?_, fun i a b => ?_⟩
  · rw [q 1 (by omega), q 2 (by omega), q 3 (by omega), q 4 (by omega)]; exact r4 t a b
  · rw [q 5 (by omega), q 6 (by omega)]
    have b : i < x := b
    exact r5 i a (by omega)

set_option maxHeartbeats 4000000 in
theorem p_strike {g : GG} {M : Mem} {s : ST} (hC : Cls M s) (hO : SOK s) (n : Int) (hn : -2147483648 ≤ n ∧ n ≤ 2147483647) : CI g tX6_strike 1 [rv g 0, iv n] M (PC M (aStrike s n) (nStrike s n)) := by
  refine Con.of [some (rv g 0), some (iv n), none] (by decide +kernel) rfl (Nat.le_of_ble_eq_true rfl) ?_
  obtain ⟨hV, ⟨hk0, hk1, hi0, hi1⟩, ⟨hT1, hT2⟩, ⟨hS1, hS2⟩, hZ, hN, hF⟩ := id hC
  obtain ⟨oV, oW, oI0, oI1, oT, oTb, oS, oSb, oZ⟩ := id hO
  obtain ⟨e6, e7, e8, e4, e5⟩ := id hV
  have o1 := oV.1
  have o2 := oV.2.1
  have o3 := oV.2.2.1
  refine x_iload_n 1 1 dX6_strike_0 rfl rfl (by decide) rfl ?_
  refine x_aload_n 2 0 dX6_strike_1 rfl rfl (by decide) rfl ?_
  refine x_getR 5 2 4 dX6_strike_2 rfl fX6_24 rfl rfl rfl ?_
  refine x_getI 8 7 7 rfl dX6_strike_5 rfl fX6_104 rfl rfl (fun g5 => ?_)
  refine x_sp 11 [_, _] (c_within _ _ (by omega) (by omega)) mX6_within kX6_70 dX6_strike_8 rfl rfl rfl (Nat.le_of_ble_eq_true rfl) (by decide) ?_
  refine x_ifne_b 16 14 dX6_strike_11 (by decide) rfl (fun h11 => ?_) (fun h11 => ?_)
  · refine x_aload_n 17 0 dX6_strike_16 rfl rfl (by decide) rfl ?_
    refine x_getR 20 2 4 dX6_strike_17 rfl fX6_24 rfl rfl rfl ?_
    refine x_getI 23 7 7 rfl dX6_strike_20 rfl fX6_104 rfl rfl (fun g20 => ?_)
    refine x_istore_n 24 2 _ dX6_strike_23 rfl rfl (by decide) rfl rfl ?_
    refine x_aload_n 25 0 dX6_strike_24 rfl rfl (by decide) rfl ?_
    refine x_getR 28 2 4 dX6_strike_25 rfl fX6_24 rfl rfl rfl ?_
    refine x_iload_n 29 1 dX6_strike_28 rfl rfl (by decide) rfl ?_
    refine x_putI 32 7 7 rfl dX6_strike_29 rfl fX6_104 rfl rfl rfl (by omega) ?_
    refine x_iload_n 33 2 dX6_strike_32 rfl rfl (by decide) rfl ?_
    refine x_iret dX6_strike_33 rfl ⟨rfl, Nat.le_refl _⟩ (qi_i ?_)
    have y1 : aStrike s n = vf (sV s) := by (unfold aStrike; rw [if_pos (by omega)])
    have y2 : nStrike s n = uV s (setF (sV s) n) := by (unfold nStrike; rw [if_pos (by omega)])
    rw [y1, y2]; exact PC.lg hC e7 (Rep_F hV n (by omega)) ((Fr.rf 4 M).up _ _ _ (by omega))
  · refine x_iconst 15 dX6_strike_14 rfl ?_
    refine x_iret dX6_strike_15 rfl ⟨rfl, Nat.le_refl _⟩ (qi_i ?_)
    have y1 : aStrike s n = -1 := by (unfold aStrike; rw [if_neg (by omega)])
    have y2 : nStrike s n = s := by (unfold nStrike; rw [if_neg (by omega)])
    rw [y1, y2]; exact PC.same hC rfl
