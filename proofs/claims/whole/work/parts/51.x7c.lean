theorem mdl_uT {M M2 : Mem} {s : ST} (h : Mdl M s) (n : Int) (b : Int → Int) (eA : ∀ a, a ≠ 50 → a ≠ 53 → M2 a = M a) (eK : ∀ k : Int, k ≠ 6 → M2 50 k = M 50 k) (hnew : M2 50 6 = n ∧ ∀ i, 0 ≤ i → i < n → M2 53 i = b i) : Mdl M2 (uT s n b) := by
  obtain ⟨h1, ⟨h2, h3, h4, h5⟩, h6, h7, h8, h9, h10, h11, h12⟩ := h
  exact ⟨h1.keep (eK 1 (by omega)) (fun k _ _ => by rw [eA 51 (by omega) (by omega)]), ⟨by rw [eA 59 (by omega) (by omega)]; exact h2, by rw [eA 59 (by omega) (by omega)]; exact h3, fun q => (h4 q).keep (eK 1 (by omega)) (fun k _ _ => by rw [eA 51 (by omega) (by omega)]), fun q => (h5 q).keep (eK 1 (by omega)) (fun k _ _ => by rw [eA 51 (by omega) (by omega)])⟩, hnew, by rw [eK 22 (by omega), eA 57 (by omega) (by omega)]; exact h7, fun k hk => by rw [eA 60 (by omega) (by omega), eA 61 (by omega) (by omega), eA 62 (by omega) (by omega)]; exact h8 k hk, by rw [eK 28 (by omega)]; exact h9, by rw [eK 7 (by omega)]; exact h10, by rw [eK 19 (by omega)]; exact h11, h12.keep (eA 54 (by omega) (by omega)) (eA 55 (by omega) (by omega))⟩
theorem mdl_uS {M M2 : Mem} {s : ST} (h : Mdl M s) (n : Int) (w l : Int → Int) (eA : ∀ a, a ≠ 50 → a ≠ 57 → M2 a = M a) (eK : ∀ k : Int, k ≠ 22 → M2 50 k = M 50 k) (hnew : M2 50 22 = n ∧ ∀ i, 0 ≤ i → i < n → M2 57 (2 * i) = w i ∧ M2 57 (2 * i + 1) = l i) : Mdl M2 (uS s n w l) := by
  obtain ⟨h1, ⟨h2, h3, h4, h5⟩, h6, h7, h8, h9, h10, h11, h12⟩ := h
  exact ⟨h1.keep (eK 1 (by omega)) (fun k _ _ => by rw [eA 51 (by omega) (by omega)]), ⟨by rw [eA 59 (by omega) (by omega)]; exact h2, by rw [eA 59 (by omega) (by omega)]; exact h3, fun q => (h4 q).keep (eK 1 (by omega)) (fun k _ _ => by rw [eA 51 (by omega) (by omega)]), fun q => (h5 q).keep (eK 1 (by omega)) (fun k _ _ => by rw [eA 51 (by omega) (by omega)])⟩, by rw [eK 6 (by omega), eA 53 (by omega) (by omega)]; exact h6, hnew, fun k hk => by rw [eA 60 (by omega) (by omega), eA 61 (by omega) (by omega), eA 62 (by omega) (by omega)]; exact h8 k hk, by rw [eK 28 (by omega)]; exact h9, by rw [eK 7 (by omega)]; exact h10, by rw [eK 19 (by omega)]; exact h11, h12.keep (eA 54 (by omega) (by omega)) (eA 55 (by omega) (by omega))⟩
theorem mdl_uZ {M M2 : Mem} {s : ST} (h : Mdl M s) (a b : Nat → Int) (c : Nat → Int → Int) (eA : ∀ a, a ≠ 50 → a ≠ 60 → a ≠ 61 → a ≠ 62 → M2 a = M a) (eK : ∀ k : Int, M2 50 k = M 50 k) (hnew : ∀ k : Nat, k < 4 → (a k = -1 → M2 60 k = -4) ∧ (a k ≠ -1 → M2 60 k = b k ∧ M2 61 k = a k) ∧ ∀ i, 0 ≤ i → i < a k → M2 62 (40 * (k : Int) + i) = c k i) : Mdl M2 (uZ s a b c) := by
  obtain ⟨h1, ⟨h2, h3, h4, h5⟩, h6, h7, h8, h9, h10, h11, h12⟩ := h
  exact ⟨h1.keep (eK 1 ) (fun k _ _ => by rw [eA 51 (by omega) (by omega) (by omega) (by omega)]), ⟨by rw [eA 59 (by omega) (by omega) (by omega) (by omega)]; exact h2, by rw [eA 59 (by omega) (by omega) (by omega) (by omega)]; exact h3, fun q => (h4 q).keep (eK 1 ) (fun k _ _ => by rw [eA 51 (by omega) (by omega) (by omega) (by omega)]), fun q => (h5 q).keep (eK 1 ) (fun k _ _ => by rw [eA 51 (by omega) (by omega) (by omega) (by omega)])⟩, by rw [eK 6 , eA 53 (by omega) (by omega) (by omega) (by omega)]; exact h6, by rw [eK 22 , eA 57 (by omega) (by omega) (by omega) (by omega)]; exact h7, hnew, by rw [eK 28 ]; exact h9, by rw [eK 7 ]; exact h10, by rw [eK 19 ]; exact h11, h12.keep (eA 54 (by omega) (by omega) (by omega) (by omega)) (eA 55 (by omega) (by omega) (by omega) (by omega))⟩
theorem mdl_uN {M M2 : Mem} {s : ST} (h : Mdl M s) (x : Int) (eA : ∀ a, a ≠ 50 → M2 a = M a) (eK : ∀ k : Int, k ≠ 28 → M2 50 k = M 50 k) (hnew : M2 50 28 = x) : Mdl M2 (uN s x) := by
  obtain ⟨h1, ⟨h2, h3, h4, h5⟩, h6, h7, h8, h9, h10, h11, h12⟩ := h
  exact ⟨h1.keep (eK 1 (by omega)) (fun k _ _ => by rw [eA 51 (by omega)]), ⟨by rw [eA 59 (by omega)]; exact h2, by rw [eA 59 (by omega)]; exact h3, fun q => (h4 q).keep (eK 1 (by omega)) (fun k _ _ => by rw [eA 51 (by omega)]), fun q => (h5 q).keep (eK 1 (by omega)) (fun k _ _ => by rw [eA 51 (by omega)])⟩, by rw [eK 6 (by omega), eA 53 (by omega)]; exact h6, by rw [eK 22 (by omega), eA 57 (by omega)]; exact h7, fun k hk => by rw [eA 60 (by omega), eA 61 (by omega), eA 62 (by omega)]; exact h8 k hk, hnew, by rw [eK 7 (by omega)]; exact h10, by rw [eK 19 (by omega)]; exact h11, h12.keep (eA 54 (by omega)) (eA 55 (by omega))⟩
theorem mdl_uF {M M2 : Mem} {s : ST} (h : Mdl M s) (x : Int) (eA : ∀ a, a ≠ 50 → M2 a = M a) (eK : ∀ k : Int, k ≠ 7 → M2 50 k = M 50 k) (hnew : M2 50 7 = x) : Mdl M2 (uF s x) := by
  obtain ⟨h1, ⟨h2, h3, h4, h5⟩, h6, h7, h8, h9, h10, h11, h12⟩ := h
  exact ⟨h1.keep (eK 1 (by omega)) (fun k _ _ => by rw [eA 51 (by omega)]), ⟨by rw [eA 59 (by omega)]; exact h2, by rw [eA 59 (by omega)]; exact h3, fun q => (h4 q).keep (eK 1 (by omega)) (fun k _ _ => by rw [eA 51 (by omega)]), fun q => (h5 q).keep (eK 1 (by omega)) (fun k _ _ => by rw [eA 51 (by omega)])⟩, by rw [eK 6 (by omega), eA 53 (by omega)]; exact h6, by rw [eK 22 (by omega), eA 57 (by omega)]; exact h7, fun k hk => by rw [eA 60 (by omega), eA 61 (by omega), eA 62 (by omega)]; exact h8 k hk, by rw [eK 28 (by omega)]; exact h9, hnew, by rw [eK 19 (by omega)]; exact h11, h12.keep (eA 54 (by omega)) (eA 55 (by omega))⟩
set_option maxHeartbeats 4000000 in
theorem r_feed {g : GG} {M : Mem} {s : ST} (hC : Mdl M s) (hO : SOK s) (c : Int) (hc : -2147483648 ≤ c ∧ c ≤ 2147483647) : CI g tX7_feed 1 [rv g 50, iv c] M (PM M (aFeed s c) (nFeed s c)) := by
  refine Con.of [some (rv g 50), some (iv c)] (by decide +kernel) rfl (Nat.le_of_ble_eq_true rfl) ?_
  obtain ⟨hV, ⟨hk0, hk1, hi0, hi1⟩, ⟨hT1, hT2⟩, ⟨hS1, hS2⟩, hZ, hN, hF, hKs, hMC⟩ := id hC
  obtain ⟨oV, oW, oI0, oI1, oT, oTb, oS, oSb, oZ⟩ := id hO
  have e1 : M 50 1 = vn (sV s) := hV.2.1
  have e40 : M 51 40 = vf (sV s) := hV.F (by omega)
  have e41 : M 51 41 = vw (sV s) := hV.W (by omega)
  have o1 := oV.1
  have o2 := oV.2.1
  have o3 := oV.2.2.1
  refine x_iload_n 1 1 dX7_feed_0 rfl rfl (by decide) rfl ?_
  refine x_i2l 2 dX7_feed_1 rfl (by omega) ?_
  refine x_lconst 3 dX7_feed_2 rfl 0 rfl ?_
  refine x_ldc2 6 127 qX7_51 dX7_feed_3 rfl ?_
  refine x_sp 9 [_, _, _] (m_in _ _ _ (by omega) (by omega) (by omega)) mX7_in kX7_53 dX7_feed_6 rfl rfl rfl (Nat.le_of_ble_eq_true rfl) (by decide) ?_
  refine x_ifne_b 14 12 dX7_feed_9 (by decide) rfl (fun h9 => ?_) (fun h9 => ?_)
  · refine x_aload_n 15 0 dX7_feed_14 rfl rfl (by decide) rfl ?_
    refine x_getI 18 6 6 rfl dX7_feed_15 rfl fX7_57 rfl rfl (fun g15 => ?_)
    rw [hT1]
    refine x_sipush 21 dX7_feed_18 rfl (by decide) ?_
    refine x_icmp_ne 27 24 dX7_feed_21 (by decide) rfl (by omega) (fun h21 => ?_) (fun h21 => ?_)
    · refine x_aload_n 28 0 dX7_feed_27 rfl rfl (by decide) rfl ?_
      refine x_getR 31 5 53 dX7_feed_28 rfl fX7_16 rfl rfl rfl ?_
      refine x_aload_n 32 0 dX7_feed_31 rfl rfl (by decide) rfl ?_
      refine x_getI 35 6 6 rfl dX7_feed_32 rfl fX7_57 rfl rfl (fun g32 => ?_)
      rw [hT1]
      refine x_iload_n 36 1 dX7_feed_35 rfl rfl (by decide) rfl ?_
      refine x_iastore 37 dX7_feed_36 rfl rfl (by omega) (by omega) ?_
      refine x_aload_n 38 0 dX7_feed_37 rfl rfl (by decide) rfl ?_
      refine x_dup 39 dX7_feed_38 rfl rfl ?_
      refine x_getI 42 6 6 rfl dX7_feed_39 rfl fX7_57 rfl rfl (fun g39 => ?_)
      rw [up2_o _ _ _ (by omega), hT1]
      refine x_iconst 43 dX7_feed_42 rfl ?_
      refine x_iadd 44 dX7_feed_43 rfl ?_
      refine x_putI 47 6 6 rfl dX7_feed_44 rfl fX7_57 rfl rfl rfl (by omega) ?_
      refine x_aload_n 48 0 dX7_feed_47 rfl rfl (by decide) rfl ?_
      refine x_getI 51 6 6 rfl dX7_feed_48 rfl fX7_57 rfl rfl (fun g48 => ?_)
      rw [up2_s]
      refine x_iret dX7_feed_51 rfl ⟨rfl, Nat.le_refl _⟩ (qi_i ?_)
      have y1 : aFeed s c = tl s + 1 := by (unfold aFeed; rw [if_pos (by omega), if_pos (by omega)])
      have y2 : nFeed s c = uT s (tl s + 1) (fu (tb s) (tl s) c) := by (unfold nFeed; rw [if_pos (by omega), if_pos (by omega)])
      rw [y1, y2]
      refine ⟨rfl, mdl_uT hC _ _ (fun a h1 h2 => by rw [up2_o _ _ _ h1, up2_o _ _ _ h2]) (fun k hk => by rw [up2_k _ _ _ hk, up2_o _ _ _ (by omega)]) ⟨up2_s _ _ _ _, fun i a b => ?_⟩, fun a ha => by rw [up2_o _ _ _ (by omega), up2_o _ _ _ (by omega)]⟩
      rw [up2_o _ _ _ (by omega), up2_i]
      unfold fu
      by_cases e : i = tl s
      · rw [if_pos e, if_pos e]
      · rw [if_neg e, if_neg e]; exact hT2 i a (by omega)
    · refine x_bipush 26 dX7_feed_24 rfl (by decide) ?_
      refine x_iret dX7_feed_26 rfl ⟨rfl, Nat.le_refl _⟩ (qi_i ?_)
      have y1 : aFeed s c = -3 := by (unfold aFeed; rw [if_pos (by omega), if_neg (by omega)])
      have y2 : nFeed s c = s := by (unfold nFeed; rw [if_pos (by omega), if_neg (by omega)])
      rw [y1, y2]; exact PM.same hC rfl
  · refine x_iconst 13 dX7_feed_12 rfl ?_
    refine x_iret dX7_feed_13 rfl ⟨rfl, Nat.le_refl _⟩ (qi_i ?_)
    have y1 : aFeed s c = -1 := by (unfold aFeed; rw [if_neg (by omega)])
    have y2 : nFeed s c = s := by (unfold nFeed; rw [if_neg (by omega)])
    rw [y1, y2]; exact PM.same hC rfl

set_option maxHeartbeats 4000000 in
theorem r_end {g : GG} {M : Mem} {s : ST} (hC : Mdl M s) (hO : SOK s) (n : Int) (hn : -2147483648 ≤ n ∧ n ≤ 2147483647) : CI g tX7_end 1 [rv g 50, iv n] M (PM M (aEnd s n) (nEnd s n)) := by
  refine Con.of [some (rv g 50), some (iv n), none] (by decide +kernel) rfl (Nat.le_of_ble_eq_true rfl) ?_
  obtain ⟨hV, ⟨hk0, hk1, hi0, hi1⟩, ⟨hT1, hT2⟩, ⟨hS1, hS2⟩, hZ, hN, hF, hKs, hMC⟩ := id hC
  obtain ⟨oV, oW, oI0, oI1, oT, oTb, oS, oSb, oZ⟩ := id hO
  have e1 : M 50 1 = vn (sV s) := hV.2.1
  have e40 : M 51 40 = vf (sV s) := hV.F (by omega)
  have e41 : M 51 41 = vw (sV s) := hV.W (by omega)
  have o1 := oV.1
  have o2 := oV.2.1
  have o3 := oV.2.2.1
  refine x_iload_n 1 1 dX7_end_0 rfl rfl (by decide) rfl ?_
  refine x_i2l 2 dX7_end_1 rfl (by omega) ?_
  refine x_lconst 3 dX7_end_2 rfl 0 rfl ?_
  refine x_aload_n 4 0 dX7_end_3 rfl rfl (by decide) rfl ?_
  refine x_getI 7 6 6 rfl dX7_end_4 rfl fX7_57 rfl rfl (fun g4 => ?_)
  rw [hT1]
  refine x_i2l 8 dX7_end_7 rfl (by omega) ?_
  refine x_sp 11 [_, _, _] (m_in _ _ _ (by omega) (by omega) (by omega)) mX7_in kX7_53 dX7_end_8 rfl rfl rfl (Nat.le_of_ble_eq_true rfl) (by decide) ?_
  refine x_ifne_b 16 14 dX7_end_11 (by decide) rfl (fun h11 => ?_) (fun h11 => ?_)
  · refine x_aload_n 17 0 dX7_end_16 rfl rfl (by decide) rfl ?_
    refine x_getI 20 6 6 rfl dX7_end_17 rfl fX7_57 rfl rfl (fun g17 => ?_)
    rw [hT1]
    refine x_istore_n 21 2 _ dX7_end_20 rfl rfl (by decide) rfl rfl ?_
    refine x_aload_n 22 0 dX7_end_21 rfl rfl (by decide) rfl ?_
    refine x_iload_n 23 1 dX7_end_22 rfl rfl (by decide) rfl ?_
    refine x_putI 26 6 6 rfl dX7_end_23 rfl fX7_57 rfl rfl rfl (by omega) ?_
    refine x_iload_n 27 2 dX7_end_26 rfl rfl (by decide) rfl ?_
    refine x_iret dX7_end_27 rfl ⟨rfl, Nat.le_refl _⟩ (qi_i ?_)
    have y1 : aEnd s n = tl s := by (unfold aEnd; rw [if_pos (by omega)])
    have y2 : nEnd s n = uT s n (tb s) := by (unfold nEnd; rw [if_pos (by omega)])
    rw [y1, y2]
    exact ⟨rfl, mdl_uT hC _ _ (fun a h1 h2 => up2_o _ _ _ h1) (fun k hk => up2_k _ _ _ hk) ⟨up2_s _ _ _ _, fun i a b => by rw [up2_o _ _ _ (by omega)]; exact hT2 i a (by omega)⟩, fun a ha => up2_o _ _ _ (by omega)⟩
  · refine x_iconst 15 dX7_end_14 rfl ?_
    refine x_iret dX7_end_15 rfl ⟨rfl, Nat.le_refl _⟩ (qi_i ?_)
    have y1 : aEnd s n = -1 := by (unfold aEnd; rw [if_neg (by omega)])
    have y2 : nEnd s n = s := by (unfold nEnd; rw [if_neg (by omega)])
    rw [y1, y2]; exact PM.same hC rfl

set_option maxHeartbeats 4000000 in
theorem r_fault {g : GG} {M : Mem} {s : ST} (hC : Mdl M s) (hO : SOK s) : CI g tX7_fault 0 [rv g 50] M (PM M (fa s) s) := by
  refine Con.of [some (rv g 50)] (by decide +kernel) rfl (Nat.le_of_ble_eq_true rfl) ?_
  obtain ⟨hV, ⟨hk0, hk1, hi0, hi1⟩, ⟨hT1, hT2⟩, ⟨hS1, hS2⟩, hZ, hN, hF, hKs, hMC⟩ := id hC
  obtain ⟨oV, oW, oI0, oI1, oT, oTb, oS, oSb, oZ⟩ := id hO
  have e1 : M 50 1 = vn (sV s) := hV.2.1
  have e40 : M 51 40 = vf (sV s) := hV.F (by omega)
  have e41 : M 51 41 = vw (sV s) := hV.W (by omega)
  have o1 := oV.1
  have o2 := oV.2.1
  have o3 := oV.2.2.1
  refine x_aload_n 1 0 dX7_fault_0 rfl rfl (by decide) rfl ?_
  refine x_getI 4 7 7 rfl dX7_fault_1 rfl fX7_122 rfl rfl (fun g1 => ?_)
  refine x_iret dX7_fault_4 rfl ⟨rfl, Nat.le_refl _⟩ (qi_i ?_)
  exact PM.same hC hF

set_option maxHeartbeats 4000000 in
theorem r_rule {g : GG} {M : Mem} {s : ST} (hC : Mdl M s) (hO : SOK s) (w : Int) (hw : -2147483648 ≤ w ∧ w ≤ 2147483647) : CI g tX7_rule 1 [rv g 50, iv w] M (PM M (aRule s w) s) := by
  refine Con.of [some (rv g 50), some (iv w)] (by decide +kernel) rfl (Nat.le_of_ble_eq_true rfl) ?_
  obtain ⟨hV, ⟨hk0, hk1, hi0, hi1⟩, ⟨hT1, hT2⟩, ⟨hS1, hS2⟩, hZ, hN, hF, hKs, hMC⟩ := id hC
  obtain ⟨oV, oW, oI0, oI1, oT, oTb, oS, oSb, oZ⟩ := id hO
  have e1 : M 50 1 = vn (sV s) := hV.2.1
  have e40 : M 51 40 = vf (sV s) := hV.F (by omega)
  have e41 : M 51 41 = vw (sV s) := hV.W (by omega)
  have o1 := oV.1
  have o2 := oV.2.1
  have o3 := oV.2.2.1
  refine x_iload_n 1 1 dX7_rule_0 rfl rfl (by decide) rfl ?_
  refine x_tsw 79 dX7_rule_1 (by decide) (by omega) (fun h1 => ?_) (fun c1 hl1 hh1 hx1 => ?_)
  · refine x_iconst 80 dX7_rule_79 rfl ?_
    refine x_iret dX7_rule_80 rfl ⟨rfl, Nat.le_refl _⟩ (qi_i ?_)
    refine PM.same hC ?_
    unfold aRule
    first | (rw [if_neg (by omega), if_neg (by omega), if_neg (by omega), if_neg (by omega), if_neg (by omega), if_neg (by omega)]) | (subst hx1; first | exact e1 | exact e40 | exact e41 | rfl)
  · rcases (show c1 = 0 ∨ c1 = 1 ∨ c1 = 2 ∨ c1 = 3 ∨ c1 = 4 ∨ c1 = 5 by omega) with rfl | rfl | rfl | rfl | rfl | rfl
    · refine ⟨39, 40, rfl, by decide, ?_⟩
      refine x_aload_n 41 0 dX7_rule_40 rfl rfl (by decide) rfl ?_
      refine x_getI 44 1 1 rfl dX7_rule_41 rfl fX7_125 rfl rfl (fun g41 => ?_)
      refine x_iret dX7_rule_44 rfl ⟨rfl, Nat.le_refl _⟩ (qi_i ?_)
      refine PM.same hC ?_
      unfold aRule
      first | (rw [if_neg (by omega), if_neg (by omega), if_neg (by omega), if_neg (by omega), if_neg (by omega), if_neg (by omega)]) | (subst hx1; first | exact e1 | exact e40 | exact e41 | rfl)
    · refine ⟨44, 45, rfl, by decide, ?_⟩
      refine x_aload_n 46 0 dX7_rule_45 rfl rfl (by decide) rfl ?_
      refine x_getR 49 0 51 dX7_rule_46 rfl fX7_7 rfl rfl rfl ?_
      refine x_bipush 51 dX7_rule_49 rfl (by decide) ?_
      refine x_iaload 52 dX7_rule_51 rfl rfl (by omega) (fun g51 => ?_)
      refine x_iret dX7_rule_52 rfl ⟨rfl, Nat.le_refl _⟩ (qi_i ?_)
      refine PM.same hC ?_
      unfold aRule
      first | (rw [if_neg (by omega), if_neg (by omega), if_neg (by omega), if_neg (by omega), if_neg (by omega), if_neg (by omega)]) | (subst hx1; first | exact e1 | exact e40 | exact e41 | rfl)
    · refine ⟨52, 53, rfl, by decide, ?_⟩
      refine x_aload_n 54 0 dX7_rule_53 rfl rfl (by decide) rfl ?_
      refine x_getR 57 0 51 dX7_rule_54 rfl fX7_7 rfl rfl rfl ?_
      refine x_bipush 59 dX7_rule_57 rfl (by decide) ?_
      refine x_iaload 60 dX7_rule_59 rfl rfl (by omega) (fun g59 => ?_)
      refine x_iret dX7_rule_60 rfl ⟨rfl, Nat.le_refl _⟩ (qi_i ?_)
      refine PM.same hC ?_
      unfold aRule
      first | (rw [if_neg (by omega), if_neg (by omega), if_neg (by omega), if_neg (by omega), if_neg (by omega), if_neg (by omega)]) | (subst hx1; first | exact e1 | exact e40 | exact e41 | rfl)
    · refine ⟨60, 61, rfl, by decide, ?_⟩
      refine x_aload_n 62 0 dX7_rule_61 rfl rfl (by decide) rfl ?_
      refine x_iconst 63 dX7_rule_62 rfl ?_
      refine x_vp 66 [_] (m_placeOn (show 0 ≤ (0 : Int) ∧ (0 : Int) ≤ 210 by omega) hV oV) mX7_placeOn kX7_151 dX7_rule_63 rfl rfl ⟨by decide, rfl⟩ rfl rfl (Nat.le_of_ble_eq_true rfl) (by decide) ?_
      refine x_iret dX7_rule_66 rfl ⟨rfl, Nat.le_refl _⟩ (qi_i ?_)
      refine PM.same hC ?_
      unfold aRule
      first | (rw [if_neg (by omega), if_neg (by omega), if_neg (by omega), if_neg (by omega), if_neg (by omega), if_neg (by omega)]) | (subst hx1; first | exact e1 | exact e40 | exact e41 | rfl)
    · refine ⟨66, 67, rfl, by decide, ?_⟩
      refine x_aload_n 68 0 dX7_rule_67 rfl rfl (by decide) rfl ?_
      refine x_iconst 69 dX7_rule_68 rfl ?_
      refine x_vp 72 [_] (m_losersOn (show 0 ≤ (0 : Int) ∧ (0 : Int) ≤ 210 by omega) hV oV) mX7_losersOn kX7_161 dX7_rule_69 rfl rfl ⟨by decide, rfl⟩ rfl rfl (Nat.le_of_ble_eq_true rfl) (by decide) ?_
      refine x_iret dX7_rule_72 rfl ⟨rfl, Nat.le_refl _⟩ (qi_i ?_)
      refine PM.same hC ?_
      unfold aRule
      first | (rw [if_neg (by omega), if_neg (by omega), if_neg (by omega), if_neg (by omega), if_neg (by omega), if_neg (by omega)]) | (subst hx1; first | exact e1 | exact e40 | exact e41 | rfl)
    · refine ⟨72, 73, rfl, by decide, ?_⟩
      refine x_aload_n 74 0 dX7_rule_73 rfl rfl (by decide) rfl ?_
      refine x_iconst 75 dX7_rule_74 rfl ?_
      refine x_vp 78 [_] (m_owedOn (show 0 ≤ (0 : Int) ∧ (0 : Int) ≤ 210 by omega) hV oV) mX7_owedOn kX7_164 dX7_rule_75 rfl rfl ⟨by decide, rfl⟩ rfl rfl (Nat.le_of_ble_eq_true rfl) (by decide) ?_
      refine x_iret dX7_rule_78 rfl ⟨rfl, Nat.le_refl _⟩ (qi_i ?_)
      refine PM.same hC ?_
      unfold aRule
      first | (rw [if_neg (by omega), if_neg (by omega), if_neg (by omega), if_neg (by omega), if_neg (by omega), if_neg (by omega)]) | (subst hx1; first | exact e1 | exact e40 | exact e41 | rfl)

set_option maxHeartbeats 4000000 in
theorem r_town {g : GG} {M : Mem} {s : ST} (hC : Mdl M s) (hO : SOK s) (t w : Int) (ht : -2147483648 ≤ t ∧ t ≤ 2147483647) (hw : -2147483648 ≤ w ∧ w ≤ 2147483647) : CI g tX7_town 2 [rv g 50, iv t, iv w] M (PM M (aTown s t w) s) := by
  refine Con.of [some (rv g 50), some (iv t), some (iv w)] (by decide +kernel) rfl (Nat.le_of_ble_eq_true rfl) ?_
  obtain ⟨hV, ⟨hk0, hk1, hi0, hi1⟩, ⟨hT1, hT2⟩, ⟨hS1, hS2⟩, hZ, hN, hF, hKs, hMC⟩ := id hC
  obtain ⟨oV, oW, oI0, oI1, oT, oTb, oS, oSb, oZ⟩ := id hO
  have e1 : M 50 1 = vn (sV s) := hV.2.1
  have e40 : M 51 40 = vf (sV s) := hV.F (by omega)
  have e41 : M 51 41 = vw (sV s) := hV.W (by omega)
  have o1 := oV.1
  have o2 := oV.2.1
  have o3 := oV.2.2.1
  refine x_aload_n 1 0 dX7_town_0 rfl rfl (by decide) rfl ?_
  refine x_iload_n 2 1 dX7_town_1 rfl rfl (by decide) rfl ?_
  refine x_vp 5 [_] (m_isTown _ t e1 (by omega) (by omega)) mX7_isTown kX7_131 dX7_town_2 rfl rfl ⟨by decide, rfl⟩ rfl rfl (Nat.le_of_ble_eq_true rfl) (by decide) ?_
  refine x_ifeq_b 20 8 dX7_town_5 (by decide) rfl (fun h5 => ?_) (fun h5 => ?_)
  · refine x_iconst 21 dX7_town_20 rfl ?_
    refine x_iret dX7_town_21 rfl ⟨rfl, Nat.le_refl _⟩ (qi_i ?_)
    refine PM.same hC ?_
    unfold aTown
    (repeat' split) <;> omega
  · refine x_iload_n 9 2 dX7_town_8 rfl rfl (by decide) rfl ?_
    refine x_i2l 10 dX7_town_9 rfl (by omega) ?_
    refine x_lconst 11 dX7_town_10 rfl 0 rfl ?_
    refine x_ldc2 14 4 qX7_114 dX7_town_11 rfl ?_
    refine x_sp 17 [_, _, _] (m_in _ _ _ (by omega) (by omega) (by omega)) mX7_in kX7_53 dX7_town_14 rfl rfl rfl (Nat.le_of_ble_eq_true rfl) (by decide) ?_
    refine x_ifne_b 22 20 dX7_town_17 (by decide) rfl (fun h17 => ?_) (fun h17 => ?_)
    · have ht2 : 0 ≤ t ∧ t < vn (sV s) := by omega
      refine x_iload_n 23 2 dX7_town_22 rfl rfl (by decide) rfl ?_
      refine x_iconst 24 dX7_town_23 rfl ?_
      refine x_icmp_ge 40 27 dX7_town_24 (by decide) rfl (by omega) (fun h24 => ?_) (fun h24 => ?_)
      · refine x_aload_n 41 0 dX7_town_40 rfl rfl (by decide) rfl ?_
        refine x_iconst 42 dX7_town_41 rfl ?_
        refine x_iload_n 43 1 dX7_town_42 rfl rfl (by decide) rfl ?_
        refine x_vp 46 [_, _] (m_playsOn (show 0 ≤ (0 : Int) ∧ (0 : Int) ≤ 210 by omega) hV oV t (by omega)) mX7_playsOn kX7_135 dX7_town_43 rfl rfl ⟨by decide, rfl⟩ rfl rfl (Nat.le_of_ble_eq_true rfl) (by decide) ?_
        refine x_iret dX7_town_46 rfl ⟨rfl, Nat.le_refl _⟩ (qi_i ?_)
        refine PM.same hC ?_
        unfold aTown
        rw [if_pos ht2]
        first
          | (rw [if_neg (by omega), if_neg (by omega), if_neg (by omega), if_neg (by omega), if_pos (by omega)]; done)
          | (rcases (show w = 0 ∨ w = 1 ∨ w = 2 ∨ w = 3 by omega) with rfl | rfl | rfl | rfl
             · exact hV.K ht2.1 ht2.2 (by omega)
             · exact hV.S ht2.1 ht2.2 (by omega)
             · exact hV.L ht2.1 ht2.2 (by omega)
             · exact hV.O ht2.1 ht2.2 (by omega))
      · refine x_aload_n 28 0 dX7_town_27 rfl rfl (by decide) rfl ?_
        refine x_getR 31 0 51 dX7_town_28 rfl fX7_7 rfl rfl rfl ?_
        refine x_iconst 32 dX7_town_31 rfl ?_
        refine x_iload_n 33 2 dX7_town_32 rfl rfl (by decide) rfl ?_
        refine x_imul 34 dX7_town_33 rfl ?_
        refine x_iload_n 35 1 dX7_town_34 rfl rfl (by decide) rfl ?_
        refine x_iadd 36 dX7_town_35 rfl ?_
        refine x_iaload 37 dX7_town_36 rfl rfl (by omega) (fun g36 => ?_)
        refine x_goto 46 dX7_town_37 (by decide) ?_
        refine x_iret dX7_town_46 rfl ⟨rfl, Nat.le_refl _⟩ (qi_i ?_)
        refine PM.same hC ?_
        unfold aTown
        rw [if_pos ht2]
        first
          | (rw [if_neg (by omega), if_neg (by omega), if_neg (by omega), if_neg (by omega), if_pos (by omega)]; done)
          | (rcases (show w = 0 ∨ w = 1 ∨ w = 2 ∨ w = 3 by omega) with rfl | rfl | rfl | rfl
             · exact hV.K ht2.1 ht2.2 (by omega)
             · exact hV.S ht2.1 ht2.2 (by omega)
             · exact hV.L ht2.1 ht2.2 (by omega)
             · exact hV.O ht2.1 ht2.2 (by omega))
    · refine x_iconst 21 dX7_town_20 rfl ?_
      refine x_iret dX7_town_21 rfl ⟨rfl, Nat.le_refl _⟩ (qi_i ?_)
      refine PM.same hC ?_
      unfold aTown
      (repeat' split) <;> omega

set_option maxHeartbeats 4000000 in
theorem r_fixture {g : GG} {M : Mem} {s : ST} (hC : Mdl M s) (hO : SOK s) (i w : Int) (hi : -2147483648 ≤ i ∧ i ≤ 2147483647) (hw : -2147483648 ≤ w ∧ w ≤ 2147483647) : CI g tX7_fixture 2 [rv g 50, iv i, iv w] M (PM M (aFix s i w) s) := by
  refine Con.of [some (rv g 50), some (iv i), some (iv w)] (by decide +kernel) rfl (Nat.le_of_ble_eq_true rfl) ?_
  obtain ⟨hV, ⟨hk0, hk1, hi0, hi1⟩, ⟨hT1, hT2⟩, ⟨hS1, hS2⟩, hZ, hN, hF, hKs, hMC⟩ := id hC
  obtain ⟨oV, oW, oI0, oI1, oT, oTb, oS, oSb, oZ⟩ := id hO
  have e1 : M 50 1 = vn (sV s) := hV.2.1
  have e40 : M 51 40 = vf (sV s) := hV.F (by omega)
  have e41 : M 51 41 = vw (sV s) := hV.W (by omega)
  have o1 := oV.1
  have o2 := oV.2.1
  have o3 := oV.2.2.1
  refine x_aload_n 1 0 dX7_fixture_0 rfl rfl (by decide) rfl ?_
  refine x_iload_n 2 1 dX7_fixture_1 rfl rfl (by decide) rfl ?_
  refine x_vp 5 [_] (m_isFixture _ i e40 (by omega) (by omega)) mX7_isFixture kX7_167 dX7_fixture_2 rfl rfl ⟨by decide, rfl⟩ rfl rfl (Nat.le_of_ble_eq_true rfl) (by decide) ?_
  refine x_ifeq_b 35 8 dX7_fixture_5 (by decide) rfl (fun h5 => ?_) (fun h5 => ?_)
  · refine x_iconst 36 dX7_fixture_35 rfl ?_
    refine x_iret dX7_fixture_36 rfl ⟨rfl, Nat.le_refl _⟩ (qi_i ?_)
    refine PM.same hC ?_
    unfold aFix
    first
      | (rw [if_neg (by omega)]; done)
      | (rw [if_pos (by omega)]
         rcases (show w = 0 ∨ w = 1 by omega) with rfl | rfl
         · exact hV.A (by omega) (by omega) (by omega)
         · exact hV.B (by omega) (by omega) (by omega))
  · refine x_iload_n 9 2 dX7_fixture_8 rfl rfl (by decide) rfl ?_
    refine x_i2l 10 dX7_fixture_9 rfl (by omega) ?_
    refine x_lconst 11 dX7_fixture_10 rfl 0 rfl ?_
    refine x_lconst 12 dX7_fixture_11 rfl 1 rfl ?_
    refine x_sp 15 [_, _, _] (m_in _ _ _ (by omega) (by omega) (by omega)) mX7_in kX7_53 dX7_fixture_12 rfl rfl rfl (Nat.le_of_ble_eq_true rfl) (by decide) ?_
    refine x_ifeq_b 35 18 dX7_fixture_15 (by decide) rfl (fun h15 => ?_) (fun h15 => ?_)
    · refine x_iconst 36 dX7_fixture_35 rfl ?_
      refine x_iret dX7_fixture_36 rfl ⟨rfl, Nat.le_refl _⟩ (qi_i ?_)
      refine PM.same hC ?_
      unfold aFix
      first
        | (rw [if_neg (by omega)]; done)
        | (rw [if_pos (by omega)]
           rcases (show w = 0 ∨ w = 1 by omega) with rfl | rfl
           · exact hV.A (by omega) (by omega) (by omega)
           · exact hV.B (by omega) (by omega) (by omega))
    · refine x_aload_n 19 0 dX7_fixture_18 rfl rfl (by decide) rfl ?_
      refine x_getR 22 0 51 dX7_fixture_19 rfl fX7_7 rfl rfl rfl ?_
      refine x_bipush 24 dX7_fixture_22 rfl (by decide) ?_
      refine x_bipush 26 dX7_fixture_24 rfl (by decide) ?_
      refine x_iload_n 27 2 dX7_fixture_26 rfl rfl (by decide) rfl ?_
      refine x_imul 28 dX7_fixture_27 rfl ?_
      refine x_iadd 29 dX7_fixture_28 rfl ?_
      refine x_iload_n 30 1 dX7_fixture_29 rfl rfl (by decide) rfl ?_
      refine x_iadd 31 dX7_fixture_30 rfl ?_
      refine x_iaload 32 dX7_fixture_31 rfl rfl (by omega) (fun g31 => ?_)
      refine x_goto 36 dX7_fixture_32 (by decide) ?_
      refine x_iret dX7_fixture_36 rfl ⟨rfl, Nat.le_refl _⟩ (qi_i ?_)
      refine PM.same hC ?_
      unfold aFix
      first
        | (rw [if_neg (by omega)]; done)
        | (rw [if_pos (by omega)]
           rcases (show w = 0 ∨ w = 1 by omega) with rfl | rfl
           · exact hV.A (by omega) (by omega) (by omega)
           · exact hV.B (by omega) (by omega) (by omega))

set_option maxHeartbeats 4000000 in
theorem r_game {g : GG} {M : Mem} {s : ST} (hC : Mdl M s) (hO : SOK s) (a b : Int) (ha : -2147483648 ≤ a ∧ a ≤ 2147483647) (hb : -2147483648 ≤ b ∧ b ≤ 2147483647) : CI g tX7_game 3 [rv g 50, iv a, iv b] M (PM M (aGame s a b) s) := by
  refine Con.of [some (rv g 50), some (iv a), some (iv b)] (by decide +kernel) rfl (Nat.le_of_ble_eq_true rfl) ?_
  obtain ⟨hV, ⟨hk0, hk1, hi0, hi1⟩, ⟨hT1, hT2⟩, ⟨hS1, hS2⟩, hZ, hN, hF, hKs, hMC⟩ := id hC
  obtain ⟨oV, oW, oI0, oI1, oT, oTb, oS, oSb, oZ⟩ := id hO
  have e1 : M 50 1 = vn (sV s) := hV.2.1
  have e40 : M 51 40 = vf (sV s) := hV.F (by omega)
  have e41 : M 51 41 = vw (sV s) := hV.W (by omega)
  have o1 := oV.1
  have o2 := oV.2.1
  have o3 := oV.2.2.1
  refine x_aload_n 1 0 dX7_game_0 rfl rfl (by decide) rfl ?_
  refine x_iload_n 2 1 dX7_game_1 rfl rfl (by decide) rfl ?_
  refine x_iload_n 3 2 dX7_game_2 rfl rfl (by decide) rfl ?_
  refine x_vp 6 [_, _] (m_isPair _ a b e1 (by omega) ha hb) mX7_isPair kX7_170 dX7_game_3 rfl rfl ⟨by decide, rfl⟩ rfl rfl (Nat.le_of_ble_eq_true rfl) (by decide) ?_
  refine x_ifeq_b 19 9 dX7_game_6 (by decide) rfl (fun h6 => ?_) (fun h6 => ?_)
  · refine x_iconst 20 dX7_game_19 rfl ?_
    refine x_iret dX7_game_20 rfl ⟨rfl, Nat.le_refl _⟩ (qi_i ?_)
    refine PM.same hC ?_
    unfold aGame pairB
    first | (rw [if_pos (decide_eq_true (by omega))]; done) | (rw [if_neg (by rw [decide_eq_true_eq]; omega)])
  · refine x_aload_n 10 0 dX7_game_9 rfl rfl (by decide) rfl ?_
    refine x_iconst 11 dX7_game_10 rfl ?_
    refine x_iload_n 12 1 dX7_game_11 rfl rfl (by decide) rfl ?_
    refine x_iload_n 13 2 dX7_game_12 rfl rfl (by decide) rfl ?_
    refine x_vp 16 [_, _, _] (m_gameOn (show 0 ≤ (0 : Int) ∧ (0 : Int) ≤ 210 by omega) hV oV a b (by omega) (by omega)) mX7_gameOn kX7_138 dX7_game_13 rfl rfl ⟨by decide, rfl⟩ rfl rfl (Nat.le_of_ble_eq_true rfl) (by decide) ?_
    refine x_goto 20 dX7_game_16 (by decide) ?_
    refine x_iret dX7_game_20 rfl ⟨rfl, Nat.le_refl _⟩ (qi_i ?_)
    refine PM.same hC ?_
    unfold aGame pairB
    first | (rw [if_pos (decide_eq_true (by omega))]; done) | (rw [if_neg (by rw [decide_eq_true_eq]; omega)])

set_option maxHeartbeats 4000000 in
theorem m_puts {g : GG} {M : Mem} (c x y : Int) (hc : c = 0 ∨ c = 1) (hx : c = 1 → 0 ≤ x ∧ x < 252) (hy : -2147483648 ≤ y ∧ y ≤ 2147483647) : CI g tX7_puts 0 [rv g 50, iv c, iv x, iv y] M (fun r M2 => (c = 0 → r = -1 ∧ M2 = M) ∧ (c = 1 → r = M 51 x ∧ M2 = up2 M 51 x y)) := by
  refine Con.of [some (rv g 50), some (iv c), some (iv x), some (iv y), none] (by decide +kernel) rfl (Nat.le_of_ble_eq_true rfl) ?_
  refine x_iload_n 1 1 dX7_puts_0 rfl rfl (by decide) rfl ?_
  refine x_if_ne 6 4 dX7_puts_1 (by decide) rfl (by omega) (fun h1 => ?_) (fun h1 => ?_)
  · have hx1 := hx (by omega)
    refine x_aload_n 7 0 dX7_puts_6 rfl rfl (by decide) rfl ?_
    refine x_getR 10 0 51 dX7_puts_7 rfl fX7_7 rfl rfl rfl ?_
    refine x_iload_n 11 2 dX7_puts_10 rfl rfl (by decide) rfl ?_
    refine x_iaload 12 dX7_puts_11 rfl rfl (by omega) (fun g11 => ?_)
    refine x_istore 14 4 _ dX7_puts_12 rfl (by decide) rfl rfl ?_
    refine x_aload_n 15 0 dX7_puts_14 rfl rfl (by decide) rfl ?_
    refine x_getR 18 0 51 dX7_puts_15 rfl fX7_7 rfl rfl rfl ?_
    refine x_iload_n 19 2 dX7_puts_18 rfl rfl (by decide) rfl ?_
    refine x_iload_n 20 3 dX7_puts_19 rfl rfl (by decide) rfl ?_
    refine x_iastore 21 dX7_puts_20 rfl rfl (by omega) (by omega) ?_
    refine x_iload 23 4 dX7_puts_21 rfl (by decide) rfl ?_
    refine x_iret dX7_puts_23 rfl ⟨rfl, Nat.le_refl _⟩ (qi_i ?_)
    exact ⟨fun q => by omega, fun _ => ⟨rfl, rfl⟩⟩
  · refine x_iconst 5 dX7_puts_4 rfl ?_
    refine x_iret dX7_puts_5 rfl ⟨rfl, Nat.le_refl _⟩ (qi_i ?_)
    exact ⟨fun _ => ⟨rfl, rfl⟩, fun q => by omega⟩

set_option maxHeartbeats 4000000 in
theorem r_alter {g : GG} {M : Mem} {s : ST} (hC : Mdl M s) (hO : SOK s) (t w x : Int) (ht : -2147483648 ≤ t ∧ t ≤ 2147483647) (hw : -2147483648 ≤ w ∧ w ≤ 2147483647) (hx : -2147483648 ≤ x ∧ x ≤ 2147483647) : CI g tX7_alter 2 [rv g 50, iv t, iv w, iv x] M (PM M (aAlter s t w x) (nAlter s t w x)) := by
  refine Con.of [some (rv g 50), some (iv t), some (iv w), some (iv x), none] (by decide +kernel) rfl (Nat.le_of_ble_eq_true rfl) ?_
  obtain ⟨hV, ⟨hk0, hk1, hi0, hi1⟩, ⟨hT1, hT2⟩, ⟨hS1, hS2⟩, hZ, hN, hF, hKs, hMC⟩ := id hC
  obtain ⟨oV, oW, oI0, oI1, oT, oTb, oS, oSb, oZ⟩ := id hO
  have e1 : M 50 1 = vn (sV s) := hV.2.1
  have e40 : M 51 40 = vf (sV s) := hV.F (by omega)
  have e41 : M 51 41 = vw (sV s) := hV.W (by omega)
  have o1 := oV.1
  have o2 := oV.2.1
  have o3 := oV.2.2.1
  refine x_cut 20 (fun z => z = altM w) (fun tail0 => ?_) (fun z0 hz0 => ?_)
  · refine x_iload_n 1 2 dX7_alter_0 rfl rfl (by decide) rfl ?_
    refine x_if_ne 8 4 dX7_alter_1 (by decide) rfl (by omega) (fun h1 => ?_) (fun h1 => ?_)
    · refine x_iload_n 9 2 dX7_alter_8 rfl rfl (by decide) rfl ?_
      refine x_iconst 10 dX7_alter_9 rfl ?_
      refine x_icmp_ne 18 13 dX7_alter_10 (by decide) rfl (by omega) (fun h10 => ?_) (fun h10 => ?_)
      · refine x_bipush 20 dX7_alter_18 rfl (by decide) ?_
        exact tail0 _ (by unfold altM; (repeat' split) <;> omega)
      · refine x_bipush 15 dX7_alter_13 rfl (by decide) ?_
        refine x_goto 20 dX7_alter_15 (by decide) ?_
        exact tail0 _ (by unfold altM; (repeat' split) <;> omega)
    · refine x_iconst 5 dX7_alter_4 rfl ?_
      refine x_goto 20 dX7_alter_5 (by decide) ?_
      exact tail0 _ (by unfold altM; (repeat' split) <;> omega)
  · have aM : altM w = 3 ∨ altM w = 20 ∨ altM w = 99 := by (unfold altM; (repeat' split) <;> omega)
    subst z0
    refine x_istore 22 4 _ dX7_alter_20 rfl (by decide) rfl rfl ?_
    refine x_aload_n 23 0 dX7_alter_22 rfl rfl (by decide) rfl ?_
    refine x_cut 60 (fun z => (z = 1 ∧ (0 ≤ t ∧ t < vn (sV s)) ∧ (0 ≤ w ∧ w ≤ 3) ∧ (0 ≤ x ∧ x ≤ altM w)) ∨ (z = 0 ∧ ¬ ((0 ≤ t ∧ t < vn (sV s)) ∧ (0 ≤ w ∧ w ≤ 3) ∧ (0 ≤ x ∧ x ≤ altM w)))) (fun tail23 => ?_) (fun z23 hz23 => ?_)
    · refine x_aload_n 24 0 dX7_alter_23 rfl rfl (by decide) rfl ?_
      refine x_iload_n 25 1 dX7_alter_24 rfl rfl (by decide) rfl ?_
      refine x_vp 28 [_] (m_isTown _ t e1 (by omega) (by omega)) mX7_isTown kX7_131 dX7_alter_25 rfl rfl ⟨by decide, rfl⟩ rfl rfl (Nat.le_of_ble_eq_true rfl) (by decide) ?_
      refine x_ifeq_b 59 31 dX7_alter_28 (by decide) rfl (fun h28 => ?_) (fun h28 => ?_)
      · refine x_iconst 60 dX7_alter_59 rfl ?_
        exact tail23 _ (by omega)
      · refine x_iload_n 32 2 dX7_alter_31 rfl rfl (by decide) rfl ?_
        refine x_i2l 33 dX7_alter_32 rfl (by omega) ?_
        refine x_lconst 34 dX7_alter_33 rfl 0 rfl ?_
        refine x_ldc2 37 3 qX7_174 dX7_alter_34 rfl ?_
        refine x_sp 40 [_, _, _] (m_in _ _ _ (by omega) (by omega) (by omega)) mX7_in kX7_53 dX7_alter_37 rfl rfl rfl (Nat.le_of_ble_eq_true rfl) (by decide) ?_
        refine x_ifeq_b 59 43 dX7_alter_40 (by decide) rfl (fun h40 => ?_) (fun h40 => ?_)
        · refine x_iconst 60 dX7_alter_59 rfl ?_
          exact tail23 _ (by omega)
        · refine x_iload_n 44 3 dX7_alter_43 rfl rfl (by decide) rfl ?_
          refine x_i2l 45 dX7_alter_44 rfl (by omega) ?_
          refine x_lconst 46 dX7_alter_45 rfl 0 rfl ?_
          refine x_iload 48 4 dX7_alter_46 rfl (by decide) rfl ?_
          refine x_i2l 49 dX7_alter_48 rfl (by omega) ?_
          refine x_sp 52 [_, _, _] (m_in _ _ _ (by omega) (by omega) (by omega)) mX7_in kX7_53 dX7_alter_49 rfl rfl rfl (Nat.le_of_ble_eq_true rfl) (by decide) ?_
          refine x_ifeq_b 59 55 dX7_alter_52 (by decide) rfl (fun h52 => ?_) (fun h52 => ?_)
          · refine x_iconst 60 dX7_alter_59 rfl ?_
            exact tail23 _ (by omega)
          · refine x_iconst 56 dX7_alter_55 rfl ?_
            refine x_goto 60 dX7_alter_56 (by decide) ?_
            exact tail23 _ (by omega)
    · refine x_iconst 61 dX7_alter_60 rfl ?_
      refine x_iload_n 62 2 dX7_alter_61 rfl rfl (by decide) rfl ?_
      refine x_imul 63 dX7_alter_62 rfl ?_
      refine x_iload_n 64 1 dX7_alter_63 rfl rfl (by decide) rfl ?_
      refine x_iadd 65 dX7_alter_64 rfl ?_
      refine x_iload_n 66 3 dX7_alter_65 rfl rfl (by decide) rfl ?_
      refine x_vi 69 [_, _, _] (m_puts z23 (5 * w + t) x (by omega) (by omega) hx) mX7_puts kX7_176 dX7_alter_66 rfl rfl ⟨by decide, rfl⟩ rfl rfl (Nat.le_of_ble_eq_true rfl) (by decide) (fun r2 M2 q2 => ?_)
      obtain ⟨qf, qt⟩ := q2
      refine x_iret dX7_alter_69 rfl ⟨rfl, Nat.le_refl _⟩ (qi_i ?_)
      by_cases hok : (0 ≤ t ∧ t < vn (sV s)) ∧ (0 ≤ w ∧ w ≤ 3) ∧ (0 ≤ x ∧ x ≤ altM w)
      · obtain ⟨rfl, rfl⟩ := qt (by omega)
        have hal : aAlter s t w x = (if w = 0 then vK (sV s) t else if w = 1 then vS (sV s) t else if w = 2 then vL (sV s) t else vO (sV s) t) := by (unfold aAlter; rw [if_pos hok])
        have hnl : nAlter s t w x = uV s (altV (sV s) t w x) := by (unfold nAlter; rw [if_pos hok])
        rw [hal, hnl]
        have hrs : RP (up2 M 51 (5 * w + t) x) 0 (altV (sV s) t w x) := by
          rcases (show w = 0 ∨ w = 1 ∨ w = 2 ∨ w = 3 by omega) with rfl | rfl | rfl | rfl
          · exact RP_K hV t x _ (by omega) (by omega)
          · exact RP_S hV t x _ (by omega) (by omega)
          · exact RP_L hV t x _ (by omega) (by omega)
          · exact RP_O hV t x _ (by omega) (by omega)
        refine PM.lg hC ?_ hrs ((FP.rf 0 M).up1 _ _ (by omega))
        rcases (show w = 0 ∨ w = 1 ∨ w = 2 ∨ w = 3 by omega) with rfl | rfl | rfl | rfl
        · exact hV.K hok.1.1 hok.1.2 (by omega)
        · exact hV.S hok.1.1 hok.1.2 (by omega)
        · exact hV.L hok.1.1 hok.1.2 (by omega)
        · exact hV.O hok.1.1 hok.1.2 (by omega)
      · obtain ⟨rfl, rfl⟩ := qf (by omega)
        have hal : aAlter s t w x = -1 := by (unfold aAlter; rw [if_neg hok])
        have hnl : nAlter s t w x = s := by (unfold nAlter; rw [if_neg hok])
        rw [hal, hnl]; exact PM.same hC rfl

set_option maxHeartbeats 4000000 in
theorem m_lendsOn {g : GG} {M : Mem} {p : Int} {v : LV} (hp : 0 ≤ p ∧ p ≤ 210) (hR : RP M p v) (hW : WF v) (a b n : Int) (ha : 0 ≤ a ∧ a < vn v) (hb : 0 ≤ b ∧ b < vn v) (hne : a ≠ b) (hn : 0 ≤ n ∧ n ≤ 20) : CI g tX7_lendsOn 0 [rv g 50, iv p, iv a, iv b, iv n] M (fun r M2 => r = lendR v a b n ∧ RP M2 p (lendV v a b n) ∧ FP p M M2) := by
  refine Con.of [some (rv g 50), some (iv p), some (iv a), some (iv b), some (iv n)] (by decide +kernel) rfl (Nat.le_of_ble_eq_true rfl) ?_
  have w1 := hW.1
  have e1 := hR.2.1
  have eSa : M 51 (p + 5 + a) = vS v a := hR.S ha.1 ha.2 rfl
  have eSb : M 51 (p + 5 + b) = vS v b := hR.S hb.1 hb.2 rfl
  have fa_ := (hW.2.2.2.1 a ha.1 ha.2).2.1
  have fb_ := (hW.2.2.2.1 b hb.1 hb.2).2.1
  refine x_aload_n 1 0 dX7_lendsOn_0 rfl rfl (by decide) rfl ?_
  refine x_getR 4 0 51 dX7_lendsOn_1 rfl fX7_7 rfl rfl rfl ?_
  refine x_iload_n 5 1 dX7_lendsOn_4 rfl rfl (by decide) rfl ?_
  refine x_iconst 6 dX7_lendsOn_5 rfl ?_
  refine x_iadd 7 dX7_lendsOn_6 rfl ?_
  refine x_iload_n 8 2 dX7_lendsOn_7 rfl rfl (by decide) rfl ?_
  refine x_iadd 9 dX7_lendsOn_8 rfl ?_
  refine x_iaload 10 dX7_lendsOn_9 rfl rfl (by omega) (fun g9 => ?_)
  rw [eSa]
  refine x_iload 12 4 dX7_lendsOn_10 rfl (by decide) rfl ?_
  refine x_icmp_ge 18 15 dX7_lendsOn_12 (by decide) rfl (by omega) (fun h12 => ?_) (fun h12 => ?_)
  · refine x_aload_n 19 0 dX7_lendsOn_18 rfl rfl (by decide) rfl ?_
    refine x_getR 22 0 51 dX7_lendsOn_19 rfl fX7_7 rfl rfl rfl ?_
    refine x_iload_n 23 1 dX7_lendsOn_22 rfl rfl (by decide) rfl ?_
    refine x_iconst 24 dX7_lendsOn_23 rfl ?_
    refine x_iadd 25 dX7_lendsOn_24 rfl ?_
    refine x_iload_n 26 3 dX7_lendsOn_25 rfl rfl (by decide) rfl ?_
    refine x_iadd 27 dX7_lendsOn_26 rfl ?_
    refine x_iaload 28 dX7_lendsOn_27 rfl rfl (by omega) (fun g27 => ?_)
    rw [eSb]
    refine x_iload 30 4 dX7_lendsOn_28 rfl (by decide) rfl ?_
    refine x_iadd 31 dX7_lendsOn_30 rfl ?_
    refine x_bipush 33 dX7_lendsOn_31 rfl (by decide) ?_
    refine x_icmp_le 39 36 dX7_lendsOn_33 (by decide) rfl (by omega) (fun h33 => ?_) (fun h33 => ?_)
    · refine x_aload_n 40 0 dX7_lendsOn_39 rfl rfl (by decide) rfl ?_
      refine x_getR 43 0 51 dX7_lendsOn_40 rfl fX7_7 rfl rfl rfl ?_
      refine x_iload_n 44 1 dX7_lendsOn_43 rfl rfl (by decide) rfl ?_
      refine x_iconst 45 dX7_lendsOn_44 rfl ?_
      refine x_iadd 46 dX7_lendsOn_45 rfl ?_
      refine x_iload_n 47 2 dX7_lendsOn_46 rfl rfl (by decide) rfl ?_
      refine x_iadd 48 dX7_lendsOn_47 rfl ?_
      refine x_dup2 49 dX7_lendsOn_48 rfl rfl rfl ?_
      refine x_iaload 50 dX7_lendsOn_49 rfl rfl (by omega) (fun g49 => ?_)
      rw [eSa]
      refine x_iload 52 4 dX7_lendsOn_50 rfl (by decide) rfl ?_
      refine x_isub 53 dX7_lendsOn_52 rfl ?_
      refine x_iastore 54 dX7_lendsOn_53 rfl rfl (by omega) (by omega) ?_
      refine x_aload_n 55 0 dX7_lendsOn_54 rfl rfl (by decide) rfl ?_
      refine x_getR 58 0 51 dX7_lendsOn_55 rfl fX7_7 rfl rfl rfl ?_
      refine x_iload_n 59 1 dX7_lendsOn_58 rfl rfl (by decide) rfl ?_
      refine x_iconst 60 dX7_lendsOn_59 rfl ?_
      refine x_iadd 61 dX7_lendsOn_60 rfl ?_
      refine x_iload_n 62 3 dX7_lendsOn_61 rfl rfl (by decide) rfl ?_
      refine x_iadd 63 dX7_lendsOn_62 rfl ?_
      refine x_dup2 64 dX7_lendsOn_63 rfl rfl rfl ?_
      refine x_iaload 65 dX7_lendsOn_64 rfl rfl (by omega) (fun g64 => ?_)
      rw [up2_k _ _ _ (by omega), eSb]
      refine x_iload 67 4 dX7_lendsOn_65 rfl (by decide) rfl ?_
      refine x_iadd 68 dX7_lendsOn_67 rfl ?_
      refine x_iastore 69 dX7_lendsOn_68 rfl rfl (by omega) (by omega) ?_
      refine x_aload_n 70 0 dX7_lendsOn_69 rfl rfl (by decide) rfl ?_
      refine x_getR 73 0 51 dX7_lendsOn_70 rfl fX7_7 rfl rfl rfl ?_
      refine x_iload_n 74 1 dX7_lendsOn_73 rfl rfl (by decide) rfl ?_
      refine x_iconst 75 dX7_lendsOn_74 rfl ?_
      refine x_iadd 76 dX7_lendsOn_75 rfl ?_
      refine x_iload_n 77 2 dX7_lendsOn_76 rfl rfl (by decide) rfl ?_
      refine x_iadd 78 dX7_lendsOn_77 rfl ?_
      refine x_iaload 79 dX7_lendsOn_78 rfl rfl (by omega) (fun g78 => ?_)
      rw [up2_k _ _ _ (by omega), up2_s]
      refine x_iret dX7_lendsOn_79 rfl ⟨rfl, Nat.le_refl _⟩ (qi_i ?_)
      unfold lendR lendV; rw [if_neg (by omega), if_neg (by omega), if_neg (by omega), if_neg (by omega)]
      exact ⟨rfl, RP_S (RP_S hR a _ _ (by omega) rfl) b _ _ (by omega) rfl, ((FP.rf p M).up1 _ _ (by omega)).up1 _ _ (by omega)⟩
    · refine x_bipush 38 dX7_lendsOn_36 rfl (by decide) ?_
      refine x_iret dX7_lendsOn_38 rfl ⟨rfl, Nat.le_refl _⟩ (qi_i ?_)
      unfold lendR lendV; rw [if_neg (by omega), if_pos (by omega), if_neg (by omega), if_pos (by omega)]; exact ⟨rfl, hR, FP.rf p M⟩
  · refine x_bipush 17 dX7_lendsOn_15 rfl (by decide) ?_
    refine x_iret dX7_lendsOn_17 rfl ⟨rfl, Nat.le_refl _⟩ (qi_i ?_)
    unfold lendR lendV; rw [if_pos (by omega), if_pos (by omega)]; exact ⟨rfl, hR, FP.rf p M⟩

set_option maxHeartbeats 4000000 in
theorem r_lend {g : GG} {M : Mem} {s : ST} (hC : Mdl M s) (hO : SOK s) (a b n : Int) (ha : -2147483648 ≤ a ∧ a ≤ 2147483647) (hb : -2147483648 ≤ b ∧ b ≤ 2147483647) (hn : -2147483648 ≤ n ∧ n ≤ 2147483647) : CI g tX7_lend 3 [rv g 50, iv a, iv b, iv n] M (PM M (aLend s a b n) (nLend s a b n)) := by
  refine Con.of [some (rv g 50), some (iv a), some (iv b), some (iv n)] (by decide +kernel) rfl (Nat.le_of_ble_eq_true rfl) ?_
  obtain ⟨hV, ⟨hk0, hk1, hi0, hi1⟩, ⟨hT1, hT2⟩, ⟨hS1, hS2⟩, hZ, hN, hF, hKs, hMC⟩ := id hC
  obtain ⟨oV, oW, oI0, oI1, oT, oTb, oS, oSb, oZ⟩ := id hO
  have e1 : M 50 1 = vn (sV s) := hV.2.1
  have e40 : M 51 40 = vf (sV s) := hV.F (by omega)
  have e41 : M 51 41 = vw (sV s) := hV.W (by omega)
  have o1 := oV.1
  have o2 := oV.2.1
  have o3 := oV.2.2.1
  refine x_aload_n 1 0 dX7_lend_0 rfl rfl (by decide) rfl ?_
  refine x_iload_n 2 1 dX7_lend_1 rfl rfl (by decide) rfl ?_
  refine x_iload_n 3 2 dX7_lend_2 rfl rfl (by decide) rfl ?_
  refine x_vp 6 [_, _] (m_isPair _ a b e1 (by omega) ha hb) mX7_isPair kX7_170 dX7_lend_3 rfl rfl ⟨by decide, rfl⟩ rfl rfl (Nat.le_of_ble_eq_true rfl) (by decide) ?_
  refine x_ifeq_b 32 9 dX7_lend_6 (by decide) rfl (fun h6 => ?_) (fun h6 => ?_)
  · refine x_iconst 33 dX7_lend_32 rfl ?_
    refine x_iret dX7_lend_33 rfl ⟨rfl, Nat.le_refl _⟩ (qi_i ?_)
    first
      | (have hp : pairB (sV s) a b = true ∧ (0 ≤ n ∧ n ≤ 20) := ⟨decide_eq_true (by omega), by omega⟩
         have y1 : aLend s a b n = lendR (sV s) a b n := by (unfold aLend; rw [if_pos hp])
         have y2 : nLend s a b n = uV s (lendV (sV s) a b n) := by (unfold nLend; rw [if_pos hp])
         rw [y1, y2]; exact PM.lg hC rfl hR2 hF2)
      | (have hp : ¬ (pairB (sV s) a b = true ∧ (0 ≤ n ∧ n ≤ 20)) := by (unfold pairB; rw [decide_eq_true_eq]; omega)
         have y1 : aLend s a b n = -1 := by (unfold aLend; rw [if_neg hp])
         have y2 : nLend s a b n = s := by (unfold nLend; rw [if_neg hp])
         rw [y1, y2]; exact PM.same hC rfl)
  · refine x_iload_n 10 3 dX7_lend_9 rfl rfl (by decide) rfl ?_
    refine x_i2l 11 dX7_lend_10 rfl (by omega) ?_
    refine x_lconst 12 dX7_lend_11 rfl 0 rfl ?_
    refine x_ldc2 15 20 qX7_180 dX7_lend_12 rfl ?_
    refine x_sp 18 [_, _, _] (m_in _ _ _ (by omega) (by omega) (by omega)) mX7_in kX7_53 dX7_lend_15 rfl rfl rfl (Nat.le_of_ble_eq_true rfl) (by decide) ?_
    refine x_ifeq_b 32 21 dX7_lend_18 (by decide) rfl (fun h18 => ?_) (fun h18 => ?_)
    · refine x_iconst 33 dX7_lend_32 rfl ?_
      refine x_iret dX7_lend_33 rfl ⟨rfl, Nat.le_refl _⟩ (qi_i ?_)
      first
        | (have hp : pairB (sV s) a b = true ∧ (0 ≤ n ∧ n ≤ 20) := ⟨decide_eq_true (by omega), by omega⟩
           have y1 : aLend s a b n = lendR (sV s) a b n := by (unfold aLend; rw [if_pos hp])
           have y2 : nLend s a b n = uV s (lendV (sV s) a b n) := by (unfold nLend; rw [if_pos hp])
           rw [y1, y2]; exact PM.lg hC rfl hR2 hF2)
        | (have hp : ¬ (pairB (sV s) a b = true ∧ (0 ≤ n ∧ n ≤ 20)) := by (unfold pairB; rw [decide_eq_true_eq]; omega)
           have y1 : aLend s a b n = -1 := by (unfold aLend; rw [if_neg hp])
           have y2 : nLend s a b n = s := by (unfold nLend; rw [if_neg hp])
           rw [y1, y2]; exact PM.same hC rfl)
    · refine x_aload_n 22 0 dX7_lend_21 rfl rfl (by decide) rfl ?_
      refine x_iconst 23 dX7_lend_22 rfl ?_
      refine x_iload_n 24 1 dX7_lend_23 rfl rfl (by decide) rfl ?_
      refine x_iload_n 25 2 dX7_lend_24 rfl rfl (by decide) rfl ?_
      refine x_iload_n 26 3 dX7_lend_25 rfl rfl (by decide) rfl ?_
      refine x_vi 29 [_, _, _, _] (m_lendsOn (show 0 ≤ (0 : Int) ∧ (0 : Int) ≤ 210 by omega) hV oV a b n (by omega) (by omega) (by omega) (by omega)) mX7_lendsOn kX7_182 dX7_lend_26 rfl rfl ⟨by decide, rfl⟩ rfl rfl (Nat.le_of_ble_eq_true rfl) (by decide) (fun r2 M2 q2 => ?_)
      obtain ⟨rfl, hR2, hF2⟩ := q2
      refine x_goto 33 dX7_lend_29 (by decide) ?_
      refine x_iret dX7_lend_33 rfl ⟨rfl, Nat.le_refl _⟩ (qi_i ?_)
      first
        | (have hp : pairB (sV s) a b = true ∧ (0 ≤ n ∧ n ≤ 20) := ⟨decide_eq_true (by omega), by omega⟩
           have y1 : aLend s a b n = lendR (sV s) a b n := by (unfold aLend; rw [if_pos hp])
           have y2 : nLend s a b n = uV s (lendV (sV s) a b n) := by (unfold nLend; rw [if_pos hp])
           rw [y1, y2]; exact PM.lg hC rfl hR2 hF2)
        | (have hp : ¬ (pairB (sV s) a b = true ∧ (0 ≤ n ∧ n ≤ 20)) := by (unfold pairB; rw [decide_eq_true_eq]; omega)
           have y1 : aLend s a b n = -1 := by (unfold aLend; rw [if_neg hp])
           have y2 : nLend s a b n = s := by (unfold nLend; rw [if_neg hp])
           rw [y1, y2]; exact PM.same hC rfl)

set_option maxHeartbeats 4000000 in
theorem m_books {g : GG} {M : Mem} {v : LV} (hR : RP M 0 v) (hn : 0 ≤ vn v) (hf : 0 ≤ vf v) (a b : Int) (ha : -2147483648 ≤ a ∧ a ≤ 2147483647) (hb : -2147483648 ≤ b ∧ b ≤ 2147483647) : CI g tX7_books 3 [rv g 50, iv a, iv b] M (fun r M2 => r = bookR v a b ∧ RP M2 0 (bookV v a b) ∧ FP 0 M M2) := by
  refine Con.of [some (rv g 50), some (iv a), some (iv b), none] (by decide +kernel) rfl (Nat.le_of_ble_eq_true rfl) ?_
  have e1 : M 50 1 = vn v := hR.2.1
  have e40 : M 51 40 = vf v := hR.F (by omega)
  have b1 := hR.1
  refine x_aload_n 1 0 dX7_books_0 rfl rfl (by decide) rfl ?_
  refine x_iload_n 2 1 dX7_books_1 rfl rfl (by decide) rfl ?_
  refine x_iload_n 3 2 dX7_books_2 rfl rfl (by decide) rfl ?_
  refine x_vp 6 [_, _] (m_isPair _ a b e1 (by omega) ha hb) mX7_isPair kX7_170 dX7_books_3 rfl rfl ⟨by decide, rfl⟩ rfl rfl (Nat.le_of_ble_eq_true rfl) (by decide) ?_
  refine x_ifne_b 11 9 dX7_books_6 (by decide) rfl (fun h6 => ?_) (fun h6 => ?_)
  · refine x_aload_n 12 0 dX7_books_11 rfl rfl (by decide) rfl ?_
    refine x_getR 15 0 51 dX7_books_12 rfl fX7_7 rfl rfl rfl ?_
    refine x_bipush 17 dX7_books_15 rfl (by decide) ?_
    refine x_iaload 18 dX7_books_17 rfl rfl (by omega) (fun g17 => ?_)
    rw [e40]
    refine x_istore_n 19 3 _ dX7_books_18 rfl rfl (by decide) rfl rfl ?_
    refine x_iload_n 20 3 dX7_books_19 rfl rfl (by decide) rfl ?_
    refine x_bipush 22 dX7_books_20 rfl (by decide) ?_
    refine x_icmp_ne 28 25 dX7_books_22 (by decide) rfl (by omega) (fun h22 => ?_) (fun h22 => ?_)
    · refine x_aload_n 29 0 dX7_books_28 rfl rfl (by decide) rfl ?_
      refine x_getR 32 0 51 dX7_books_29 rfl fX7_7 rfl rfl rfl ?_
      refine x_bipush 34 dX7_books_32 rfl (by decide) ?_
      refine x_iload_n 35 3 dX7_books_34 rfl rfl (by decide) rfl ?_
      refine x_iadd 36 dX7_books_35 rfl ?_
      refine x_iload_n 37 1 dX7_books_36 rfl rfl (by decide) rfl ?_
      refine x_iastore 38 dX7_books_37 rfl rfl (by omega) (by omega) ?_
      refine x_aload_n 39 0 dX7_books_38 rfl rfl (by decide) rfl ?_
      refine x_getR 42 0 51 dX7_books_39 rfl fX7_7 rfl rfl rfl ?_
      refine x_bipush 44 dX7_books_42 rfl (by decide) ?_
      refine x_iload_n 45 3 dX7_books_44 rfl rfl (by decide) rfl ?_
      refine x_iadd 46 dX7_books_45 rfl ?_
      refine x_iload_n 47 2 dX7_books_46 rfl rfl (by decide) rfl ?_
      refine x_iastore 48 dX7_books_47 rfl rfl (by omega) (by omega) ?_
      refine x_aload_n 49 0 dX7_books_48 rfl rfl (by decide) rfl ?_
      refine x_getR 52 0 51 dX7_books_49 rfl fX7_7 rfl rfl rfl ?_
      refine x_bipush 54 dX7_books_52 rfl (by decide) ?_
      refine x_dup2 55 dX7_books_54 rfl rfl rfl ?_
      refine x_iaload 56 dX7_books_55 rfl rfl (by omega) (fun g55 => ?_)
      rw [up2_k _ _ _ (by omega), up2_k _ _ _ (by omega), e40]
      refine x_iconst 57 dX7_books_56 rfl ?_
      refine x_iadd 58 dX7_books_57 rfl ?_
      refine x_iastore 59 dX7_books_58 rfl rfl (by omega) (by omega) ?_
      refine x_aload_n 60 0 dX7_books_59 rfl rfl (by decide) rfl ?_
      refine x_getR 63 0 51 dX7_books_60 rfl fX7_7 rfl rfl rfl ?_
      refine x_bipush 65 dX7_books_63 rfl (by decide) ?_
      refine x_iaload 66 dX7_books_65 rfl rfl (by omega) (fun g65 => ?_)
      rw [up2_s]
      refine x_iret dX7_books_66 rfl ⟨rfl, Nat.le_refl _⟩ (qi_i ?_)
      unfold bookR bookV pairB; rw [if_pos (decide_eq_true (by omega)), if_pos (decide_eq_true (by omega))]
      unfold addR addV; rw [if_neg (by omega), if_neg (by omega)]
      exact ⟨rfl, RP_addF hR a b (by omega) (by omega) (by omega) (by omega) rfl, (((FP.rf 0 M).up1 _ _ (by omega)).up1 _ _ (by omega)).up1 _ _ (by omega)⟩
    · refine x_bipush 27 dX7_books_25 rfl (by decide) ?_
      refine x_iret dX7_books_27 rfl ⟨rfl, Nat.le_refl _⟩ (qi_i ?_)
      unfold bookR bookV pairB; rw [if_pos (decide_eq_true (by omega)), if_pos (decide_eq_true (by omega))]
      unfold addR addV; rw [if_pos (by omega), if_pos (by omega)]; exact ⟨rfl, hR, FP.rf 0 M⟩
  · refine x_iconst 10 dX7_books_9 rfl ?_
    refine x_iret dX7_books_10 rfl ⟨rfl, Nat.le_refl _⟩ (qi_i ?_)
    unfold bookR bookV pairB; rw [if_neg (by rw [decide_eq_true_eq]; omega), if_neg (by rw [decide_eq_true_eq]; omega)]; exact ⟨rfl, hR, FP.rf 0 M⟩

set_option maxHeartbeats 4000000 in
theorem r_book {g : GG} {M : Mem} {s : ST} (hC : Mdl M s) (hO : SOK s) (a b : Int) (ha : -2147483648 ≤ a ∧ a ≤ 2147483647) (hb : -2147483648 ≤ b ∧ b ≤ 2147483647) : CI g tX7_book 4 [rv g 50, iv a, iv b] M (PM M (aBook s a b) (nBook s a b)) := by
  refine Con.of [some (rv g 50), some (iv a), some (iv b)] (by decide +kernel) rfl (Nat.le_of_ble_eq_true rfl) ?_
  obtain ⟨hV, ⟨hk0, hk1, hi0, hi1⟩, ⟨hT1, hT2⟩, ⟨hS1, hS2⟩, hZ, hN, hF, hKs, hMC⟩ := id hC
  obtain ⟨oV, oW, oI0, oI1, oT, oTb, oS, oSb, oZ⟩ := id hO
  have e1 : M 50 1 = vn (sV s) := hV.2.1
  have e40 : M 51 40 = vf (sV s) := hV.F (by omega)
  have e41 : M 51 41 = vw (sV s) := hV.W (by omega)
  have o1 := oV.1
  have o2 := oV.2.1
  have o3 := oV.2.2.1
  refine x_aload_n 1 0 dX7_book_0 rfl rfl (by decide) rfl ?_
  refine x_iload_n 2 1 dX7_book_1 rfl rfl (by decide) rfl ?_
  refine x_iload_n 3 2 dX7_book_2 rfl rfl (by decide) rfl ?_
  refine x_vi 6 [_, _] (m_books hV (by omega) (by omega) a b ha hb) mX7_books kX7_186 dX7_book_3 rfl rfl ⟨by decide, rfl⟩ rfl rfl (Nat.le_of_ble_eq_true rfl) (by decide) (fun r2 M2 q2 => ?_)
  obtain ⟨rfl, hR2, hF2⟩ := q2
  refine x_iret dX7_book_6 rfl ⟨rfl, Nat.le_refl _⟩ (qi_i ?_)
  exact PM.lg hC rfl hR2 hF2

set_option maxHeartbeats 4000000 in
theorem r_strike {g : GG} {M : Mem} {s : ST} (hC : Mdl M s) (hO : SOK s) (n : Int) (hn : -2147483648 ≤ n ∧ n ≤ 2147483647) : CI g tX7_strike 1 [rv g 50, iv n] M (PM M (aStrike s n) (nStrike s n)) := by
  refine Con.of [some (rv g 50), some (iv n)] (by decide +kernel) rfl (Nat.le_of_ble_eq_true rfl) ?_
  obtain ⟨hV, ⟨hk0, hk1, hi0, hi1⟩, ⟨hT1, hT2⟩, ⟨hS1, hS2⟩, hZ, hN, hF, hKs, hMC⟩ := id hC
  obtain ⟨oV, oW, oI0, oI1, oT, oTb, oS, oSb, oZ⟩ := id hO
  have e1 : M 50 1 = vn (sV s) := hV.2.1
  have e40 : M 51 40 = vf (sV s) := hV.F (by omega)
  have e41 : M 51 41 = vw (sV s) := hV.W (by omega)
  have o1 := oV.1
  have o2 := oV.2.1
  have o3 := oV.2.2.1
  refine x_aload_n 1 0 dX7_strike_0 rfl rfl (by decide) rfl ?_
  refine x_iload_n 2 1 dX7_strike_1 rfl rfl (by decide) rfl ?_
  refine x_i2l 3 dX7_strike_2 rfl (by omega) ?_
  refine x_lconst 4 dX7_strike_3 rfl 0 rfl ?_
  refine x_aload_n 5 0 dX7_strike_4 rfl rfl (by decide) rfl ?_
  refine x_getR 8 0 51 dX7_strike_5 rfl fX7_7 rfl rfl rfl ?_
  refine x_bipush 10 dX7_strike_8 rfl (by decide) ?_
  refine x_iaload 11 dX7_strike_10 rfl rfl (by omega) (fun g10 => ?_)
  rw [e40]
  refine x_i2l 12 dX7_strike_11 rfl (by omega) ?_
  refine x_sp 15 [_, _, _] (m_in _ _ _ (by omega) (by omega) (by omega)) mX7_in kX7_53 dX7_strike_12 rfl rfl rfl (Nat.le_of_ble_eq_true rfl) (by decide) ?_
  have hb := bI_or (0 ≤ n ∧ n ≤ vf (sV s))
  refine x_bipush 17 dX7_strike_15 rfl (by decide) ?_
  refine x_iload_n 18 1 dX7_strike_17 rfl rfl (by decide) rfl ?_
  refine x_vi 21 [_, _, _] (m_puts _ 40 n hb (fun _ => by omega) hn) mX7_puts kX7_176 dX7_strike_18 rfl rfl ⟨by decide, rfl⟩ rfl rfl (Nat.le_of_ble_eq_true rfl) (by decide) (fun r2 M2 q2 => ?_)
  obtain ⟨qf, qt⟩ := q2
  refine x_iret dX7_strike_21 rfl ⟨rfl, Nat.le_refl _⟩ (qi_i ?_)
  by_cases hok : 0 ≤ n ∧ n ≤ vf (sV s)
  · obtain ⟨rfl, rfl⟩ := qt (bI_t hok)
    have y1 : aStrike s n = vf (sV s) := by (unfold aStrike; rw [if_pos hok])
    have y2 : nStrike s n = uV s (setF (sV s) n) := by (unfold nStrike; rw [if_pos hok])
    rw [y1, y2]; exact PM.lg hC e40 (RP_F hV n _ hok.2 (by omega)) ((FP.rf 0 M).up1 _ _ (by omega))
  · obtain ⟨rfl, rfl⟩ := qf (bI_f hok)
    have y1 : aStrike s n = -1 := by (unfold aStrike; rw [if_neg hok])
    have y2 : nStrike s n = s := by (unfold nStrike; rw [if_neg hok])
    rw [y1, y2]; exact PM.same hC rfl
