theorem Rep_addT {M : Mem} {o : Nat} {v : LV} (h : Rep M o v) (k s : Int) {x1 x2 x3 x4 y : Int} (e1 : x1 = vn v) (e2 : x2 = vn v) (e3 : x3 = vn v) (e4 : x4 = vn v) (ey : y = vn v + 1) : Rep (up2 (up2 (up2 (up2 (up2 M (o + 1) x1 k) (o + 2) x2 s) (o + 3) x3 0) (o + 4) x4 0) o 6 y) o (addT v k s) := by
  subst e1; subst ey
  rw [e2, e3, e4]
  have h2 := Rep_O (Rep_L (Rep_S (Rep_K h (vn v) k) (vn v) s) (vn v) 0) (vn v) 0
  obtain ⟨r1, r2, r3, r4, r5⟩ := h2
  have q : ∀ j : Nat, 0 < j → up2 (up2 (up2 (up2 (up2 M (o + 1) (vn v) k) (o + 2) (vn v) s) (o + 3) (vn v) 0) (o + 4) (vn v) 0) o 6 (vn v + 1) (o + j) = (up2 (up2 (up2 (up2 M (o + 1) (vn v) k) (o + 2) (vn v) s) (o + 3) (vn v) 0) (o + 4) (vn v) 0) (o + j) := fun j hj => up2_o _ _ _ (by omega)
  refine ⟨up2_s _ _ _ _, (up2_k _ _ _ (by omega)).trans r2, (up2_k _ _ _ (by omega)).trans r3, fun t a b => ?_, fun i a b => ?_⟩
  · rw [q 1 (by omega), q 2 (by omega), q 3 (by omega), q 4 (by omega)]
    by_cases e : t < vn v
    · exact r4 t a e
    · have e : t = vn v := by
        have b : t < vn v + 1 := b
        omega
      subst e
      have z1 : up2 (up2 (up2 (up2 M (o + 1) (vn v) k) (o + 2) (vn v) s) (o + 3) (vn v) 0) (o + 4) (vn v) 0 (o + 1) (vn v) = k := by
        rw [up2_o _ _ _ (by omega), up2_o _ _ _ (by omega), up2_o _ _ _ (by omega), up2_s]
      have z2 : up2 (up2 (up2 (up2 M (o + 1) (vn v) k) (o + 2) (vn v) s) (o + 3) (vn v) 0) (o + 4) (vn v) 0 (o + 2) (vn v) = s := by
        rw [up2_o _ _ _ (by omega), up2_o _ _ _ (by omega), up2_s]
      have z3 : up2 (up2 (up2 (up2 M (o + 1) (vn v) k) (o + 2) (vn v) s) (o + 3) (vn v) 0) (o + 4) (vn v) 0 (o + 3) (vn v) = 0 := by
        rw [up2_o _ _ _ (by omega), up2_s]
      rw [z1, z2, z3, up2_s]
      exact ⟨(fu_s _ _ _).symm, (fu_s _ _ _).symm, (fu_s _ _ _).symm, (fu_s _ _ _).symm⟩
  · rw [q 5 (by omega), q 6 (by omega)]
    exact r5 i a b
theorem Rep_addF {M : Mem} {o : Nat} {v : LV} (h : Rep M o v) (x y : Int) {x1 x2 z : Int} (e1 : x1 = vf v) (e2 : x2 = vf v) (ez : z = vf v + 1) : Rep (up2 (up2 (up2 M (o + 5) x1 x) (o + 6) x2 y) o 7 z) o (addF v x y) := by
  subst e1; subst ez
  rw [e2]
  have h2 := Rep_B (Rep_A h (vf v) x) (vf v) y
  obtain ⟨r1, r2, r3, r4, r5⟩ := h2
  have q : ∀ j : Nat, 0 < j → up2 (up2 (up2 M (o + 5) (vf v) x) (o + 6) (vf v) y) o 7 (vf v + 1) (o + j) = (up2 (up2 M (o + 5) (vf v) x) (o + 6) (vf v) y) (o + j) := fun j hj => up2_o _ _ _ (by omega)
  refine ⟨(up2_k _ _ _ (by omega)).trans r1, up2_s _ _ _ _, (up2_k _ _ _ (by omega)).trans r3, fun t a b => ?_, fun i a b => ?_⟩
  · rw [q 1 (by omega), q 2 (by omega), q 3 (by omega), q 4 (by omega)]
    exact r4 t a b
  · rw [q 5 (by omega), q 6 (by omega)]
    by_cases e : i < vf v
    · exact r5 i a e
    · have e : i = vf v := by
        have b : i < vf v + 1 := b
        omega
      subst e
      rw [up2_o _ _ _ (by omega), up2_s, up2_s]
      exact ⟨(fu_s _ _ _).symm, (fu_s _ _ _).symm⟩

set_option maxHeartbeats 4000000 in
theorem c_addTown {g : GG} {M : Mem} {o : Nat} {v : LV} (ho : isLg o) (hR : Rep M o v) (hn : 0 ≤ vn v ∧ vn v < 5) (k s : Int) (hk : -2147483648 ≤ k ∧ k ≤ 2147483647) (hs : -2147483648 ≤ s ∧ s ≤ 2147483647) : CV g tX1_addTown 1 [rv g o, iv k, iv s] M (fun M2 => Rep M2 o (addT v k s) ∧ Fr o M M2) := by
  refine Con.of [some (rv g o), some (iv k), some (iv s)] (by decide +kernel) rfl (Nat.le_of_ble_eq_true rfl) ?_
  obtain ⟨e6, e7, e8, -, -⟩ := id hR
  refine x_aload_n 1 0 dX1_addTown_0 rfl rfl (by decide) rfl ?_
  refine x_vp 4 [] (c_isFullOfTowns ho) mX1_isFullOfTowns kX1_44 dX1_addTown_1 rfl (lg_s ho) ⟨by decide, rfl⟩ rfl rfl (Nat.le_of_ble_eq_true rfl) (by decide) ?_
  refine x_ifeq_b 8 7 dX1_addTown_4 (by decide) rfl (fun h4 => ?_) (fun h4 => ?_)
  · refine x_aload_n 9 0 dX1_addTown_8 rfl rfl (by decide) rfl ?_
    refine x_getR 12 0 (o + 1) dX1_addTown_9 rfl fX1_9 rfl (lg_s ho) (lg_r0 ho) ?_
    refine x_aload_n 13 0 dX1_addTown_12 rfl rfl (by decide) rfl ?_
    refine x_getI 16 6 6 rfl dX1_addTown_13 rfl fX1_30 rfl (lg_s ho) (fun g13 => ?_)
    refine x_iload_n 17 1 dX1_addTown_16 rfl rfl (by decide) rfl ?_
    refine x_iastore 18 dX1_addTown_17 rfl (lg_a0 ho) (by omega) (by omega) ?_
    refine x_aload_n 19 0 dX1_addTown_18 rfl rfl (by decide) rfl ?_
    refine x_getR 22 1 (o + 2) dX1_addTown_19 rfl fX1_15 rfl (lg_s ho) (lg_r1 ho) ?_
    refine x_aload_n 23 0 dX1_addTown_22 rfl rfl (by decide) rfl ?_
    refine x_getI 26 6 6 rfl dX1_addTown_23 rfl fX1_30 rfl (lg_s ho) (fun g23 => ?_)
    refine x_iload_n 27 2 dX1_addTown_26 rfl rfl (by decide) rfl ?_
    refine x_iastore 28 dX1_addTown_27 rfl (lg_a1 ho) (by rw [up2_o _ _ _ (by omega)]; omega) (by omega) ?_
    refine x_aload_n 29 0 dX1_addTown_28 rfl rfl (by decide) rfl ?_
    refine x_getR 32 2 (o + 3) dX1_addTown_29 rfl fX1_18 rfl (lg_s ho) (lg_r2 ho) ?_
    refine x_aload_n 33 0 dX1_addTown_32 rfl rfl (by decide) rfl ?_
    refine x_getI 36 6 6 rfl dX1_addTown_33 rfl fX1_30 rfl (lg_s ho) (fun g33 => ?_)
    refine x_iconst 37 dX1_addTown_36 rfl ?_
    refine x_iastore 38 dX1_addTown_37 rfl (lg_a2 ho) (by rw [up2_o _ _ _ (by omega), up2_o _ _ _ (by omega)]; omega) (by omega) ?_
    refine x_aload_n 39 0 dX1_addTown_38 rfl rfl (by decide) rfl ?_
    refine x_getR 42 3 (o + 4) dX1_addTown_39 rfl fX1_21 rfl (lg_s ho) (lg_r3 ho) ?_
    refine x_aload_n 43 0 dX1_addTown_42 rfl rfl (by decide) rfl ?_
    refine x_getI 46 6 6 rfl dX1_addTown_43 rfl fX1_30 rfl (lg_s ho) (fun g43 => ?_)
    refine x_iconst 47 dX1_addTown_46 rfl ?_
    refine x_iastore 48 dX1_addTown_47 rfl (lg_a3 ho) (by rw [up2_o _ _ _ (by omega), up2_o _ _ _ (by omega), up2_o _ _ _ (by omega)]; omega) (by omega) ?_
    refine x_aload_n 49 0 dX1_addTown_48 rfl rfl (by decide) rfl ?_
    refine x_dup 50 dX1_addTown_49 rfl rfl ?_
    refine x_getI 53 6 6 rfl dX1_addTown_50 rfl fX1_30 rfl (lg_s ho) (fun g50 => ?_)
    refine x_iconst 54 dX1_addTown_53 rfl ?_
    refine x_iadd 55 dX1_addTown_54 rfl ?_
    refine x_putI 58 6 6 rfl dX1_addTown_55 rfl fX1_30 rfl rfl (lg_s ho) (by rw [up2_o _ _ _ (by omega), up2_o _ _ _ (by omega), up2_o _ _ _ (by omega), up2_o _ _ _ (by omega)]; omega) ?_
    refine x_vret dX1_addTown_58 rfl ⟨rfl, Nat.le_refl _⟩ (qv_i ?_)
    refine ⟨Rep_addT hR k s e6 ?_ ?_ ?_ ?_, (((((Fr.rf o M).up _ _ _ (by omega)).up _ _ _ (by omega)).up _ _ _ (by omega)).up _ _ _ (by omega)).up _ _ _ (by omega)⟩
    · rw [up2_o _ _ _ (by omega)]; exact e6
    · rw [up2_o _ _ _ (by omega), up2_o _ _ _ (by omega)]; exact e6
    · rw [up2_o _ _ _ (by omega), up2_o _ _ _ (by omega), up2_o _ _ _ (by omega)]; exact e6
    · rw [up2_o _ _ _ (by omega), up2_o _ _ _ (by omega), up2_o _ _ _ (by omega), up2_o _ _ _ (by omega), e6]
  · exfalso; omega

set_option maxHeartbeats 4000000 in
theorem c_addFixtureUnseen {g : GG} {M : Mem} {o : Nat} {v : LV} (ho : isLg o) (hR : Rep M o v) (hf : 0 ≤ vf v) (a b : Int) (ha : -2147483648 ≤ a ∧ a ≤ 2147483647) (hb : -2147483648 ≤ b ∧ b ≤ 2147483647) : CI g tX1_addFixtureUnseen 1 [rv g o, iv a, iv b] M (fun r M2 => r = addR v ∧ Rep M2 o (addV v a b) ∧ Fr o M M2) := by
  refine Con.of [some (rv g o), some (iv a), some (iv b)] (by decide +kernel) rfl (Nat.le_of_ble_eq_true rfl) ?_
  obtain ⟨e6, e7, e8, -, -⟩ := id hR
  refine x_aload_n 1 0 dX1_addFixtureUnseen_0 rfl rfl (by decide) rfl ?_
  refine x_vp 4 [] (c_isFullOfFixtures ho) mX1_isFullOfFixtures kX1_56 dX1_addFixtureUnseen_1 rfl (lg_s ho) ⟨by decide, rfl⟩ rfl rfl (Nat.le_of_ble_eq_true rfl) (by decide) ?_
  refine x_ifeq_b 10 7 dX1_addFixtureUnseen_4 (by decide) rfl (fun h4 => ?_) (fun h4 => ?_)
  · refine x_aload_n 11 0 dX1_addFixtureUnseen_10 rfl rfl (by decide) rfl ?_
    refine x_getR 14 4 (o + 5) dX1_addFixtureUnseen_11 rfl fX1_24 rfl (lg_s ho) (lg_r4 ho) ?_
    refine x_aload_n 15 0 dX1_addFixtureUnseen_14 rfl rfl (by decide) rfl ?_
    refine x_getI 18 7 7 rfl dX1_addFixtureUnseen_15 rfl fX1_34 rfl (lg_s ho) (fun g15 => ?_)
    refine x_iload_n 19 1 dX1_addFixtureUnseen_18 rfl rfl (by decide) rfl ?_
    refine x_iastore 20 dX1_addFixtureUnseen_19 rfl (lg_a4 ho) (by omega) (by omega) ?_
    refine x_aload_n 21 0 dX1_addFixtureUnseen_20 rfl rfl (by decide) rfl ?_
    refine x_getR 24 5 (o + 6) dX1_addFixtureUnseen_21 rfl fX1_27 rfl (lg_s ho) (lg_r5 ho) ?_
    refine x_aload_n 25 0 dX1_addFixtureUnseen_24 rfl rfl (by decide) rfl ?_
    refine x_getI 28 7 7 rfl dX1_addFixtureUnseen_25 rfl fX1_34 rfl (lg_s ho) (fun g25 => ?_)
    refine x_iload_n 29 2 dX1_addFixtureUnseen_28 rfl rfl (by decide) rfl ?_
    refine x_iastore 30 dX1_addFixtureUnseen_29 rfl (lg_a5 ho) (by rw [up2_o _ _ _ (by omega)]; omega) (by omega) ?_
    refine x_aload_n 31 0 dX1_addFixtureUnseen_30 rfl rfl (by decide) rfl ?_
    refine x_dup 32 dX1_addFixtureUnseen_31 rfl rfl ?_
    refine x_getI 35 7 7 rfl dX1_addFixtureUnseen_32 rfl fX1_34 rfl (lg_s ho) (fun g32 => ?_)
    refine x_iconst 36 dX1_addFixtureUnseen_35 rfl ?_
    refine x_iadd 37 dX1_addFixtureUnseen_36 rfl ?_
    refine x_putI 40 7 7 rfl dX1_addFixtureUnseen_37 rfl fX1_34 rfl rfl (lg_s ho) (by rw [up2_o _ _ _ (by omega), up2_o _ _ _ (by omega)]; omega) ?_
    refine x_aload_n 41 0 dX1_addFixtureUnseen_40 rfl rfl (by decide) rfl ?_
    refine x_getI 44 7 7 rfl dX1_addFixtureUnseen_41 rfl fX1_34 rfl (lg_s ho) (fun g41 => ?_)
    refine x_iret dX1_addFixtureUnseen_44 rfl ⟨rfl, Nat.le_refl _⟩ (qi_i ?_)
    refine ⟨?_, ?_, (((Fr.rf o M).up _ _ _ (by omega)).up _ _ _ (by omega)).up _ _ _ (by omega)⟩
    · unfold addR; rw [if_neg (by omega), up2_s, up2_o _ _ _ (by omega), up2_o _ _ _ (by omega), e7]
    · unfold addV; rw [if_neg (by omega)]
      exact Rep_addF hR a b e7 (by rw [up2_o _ _ _ (by omega)]; exact e7) (by rw [up2_o _ _ _ (by omega), up2_o _ _ _ (by omega), e7])
  · refine x_bipush 9 dX1_addFixtureUnseen_7 rfl (by decide) ?_
    refine x_iret dX1_addFixtureUnseen_9 rfl ⟨rfl, Nat.le_refl _⟩ (qi_i ?_)
    refine ⟨?_, ?_, Fr.rf o M⟩
    · unfold addR; rw [if_pos (by omega)]
    · unfold addV; rw [if_pos (by omega)]; exact hR

set_option maxHeartbeats 4000000 in
theorem c_addFixture {g : GG} {M : Mem} {o : Nat} {v : LV} (ho : isLg o) (hR : Rep M o v) (hf : 0 ≤ vf v) (a b : Int) (ha : -2147483648 ≤ a ∧ a ≤ 2147483647) (hb : -2147483648 ≤ b ∧ b ≤ 2147483647) : CI g tX1_addFixture 2 [rv g o, iv a, iv b] M (fun r M2 => r = bookR v a b ∧ Rep M2 o (bookV v a b) ∧ Fr o M M2) := by
  refine Con.of [some (rv g o), some (iv a), some (iv b)] (by decide +kernel) rfl (Nat.le_of_ble_eq_true rfl) ?_
  obtain ⟨e6, e7, e8, -, -⟩ := id hR
  refine x_aload_n 1 0 dX1_addFixture_0 rfl rfl (by decide) rfl ?_
  refine x_iload_n 2 1 dX1_addFixture_1 rfl rfl (by decide) rfl ?_
  refine x_iload_n 3 2 dX1_addFixture_2 rfl rfl (by decide) rfl ?_
  refine x_vp 6 [_, _] (c_hasPair ho a b ha hb) mX1_hasPair kX1_48 dX1_addFixture_3 rfl (lg_s ho) ⟨by decide, rfl⟩ rfl rfl (Nat.le_of_ble_eq_true rfl) (by decide) ?_
  refine x_ifne_b 11 9 dX1_addFixture_6 (by decide) rfl (fun h6 => ?_) (fun h6 => ?_)
  · refine x_aload_n 12 0 dX1_addFixture_11 rfl rfl (by decide) rfl ?_
    refine x_iload_n 13 1 dX1_addFixture_12 rfl rfl (by decide) rfl ?_
    refine x_iload_n 14 2 dX1_addFixture_13 rfl rfl (by decide) rfl ?_
    refine x_vi 17 [_, _] (c_addFixtureUnseen ho hR hf a b ha hb) mX1_addFixtureUnseen kX1_52 dX1_addFixture_14 rfl (lg_s ho) ⟨by decide, rfl⟩ rfl rfl (Nat.le_of_ble_eq_true rfl) (by decide) (fun r M2 q2 => ?_)
    obtain ⟨rfl, hR2, hF2⟩ := q2
    refine x_iret dX1_addFixture_17 rfl ⟨rfl, Nat.le_refl _⟩ (qi_i ?_)
    refine ⟨?_, ?_, hF2⟩
    · unfold bookR pairB; rw [if_pos (by rw [decide_eq_true_eq, ← e6]; assumption)]
    · unfold bookV pairB; rw [if_pos (by rw [decide_eq_true_eq, ← e6]; assumption)]; exact hR2
  · refine x_iconst 10 dX1_addFixture_9 rfl ?_
    refine x_iret dX1_addFixture_10 rfl ⟨rfl, Nat.le_refl _⟩ (qi_i ?_)
    refine ⟨?_, ?_, Fr.rf o M⟩
    · unfold bookR pairB; rw [if_neg (by rw [decide_eq_true_eq, ← e6]; assumption)]
    · unfold bookV pairB; rw [if_neg (by rw [decide_eq_true_eq, ← e6]; assumption)]; exact hR

set_option maxHeartbeats 4000000 in
theorem c_lacksTown {g : GG} {M : Mem} {o : Nat} {v : LV} (ho : isLg o) (hR : Rep M o v) (hf : 0 ≤ vf v ∧ vf v ≤ 10) : CP g tX1_lacksTown 2 [rv g o] M (bI (lackB v = true)) := by
  refine Con.of [some (rv g o), none] (by decide +kernel) rfl (Nat.le_of_ble_eq_true rfl) ?_
  obtain ⟨e6, e7, e8, -, e5⟩ := id hR
  have loop : ∀ (m k : Nat), (vf v).toNat - k < m → k ≤ (vf v).toNat → (∀ j : Nat, j < k → pairB v (vA v j) (vB v j) = true) → X g tX1_lacksTown (kk0 2) 2 [some (rv g o), some (iv k)] [] (S0, R0, M) (QP M (bI (lackB v = true))) := by
    intro m
    induction m with
    | zero => intro k k1 k2; omega
    | succ m ih =>
      intro k k1 k2 hno
      refine x_iload_n 3 1 dX1_lacksTown_2 rfl rfl (by decide) rfl ?_
      refine x_aload_n 4 0 dX1_lacksTown_3 rfl rfl (by decide) rfl ?_
      refine x_getI 7 7 7 rfl dX1_lacksTown_4 rfl fX1_34 rfl (lg_s ho) (fun g4 => ?_)
      refine x_icmp_ge 37 10 dX1_lacksTown_7 (by decide) rfl (by omega) (fun h7 => ?_) (fun h7 => ?_)
      · refine x_iconst 38 dX1_lacksTown_37 rfl ?_
        refine x_zret dX1_lacksTown_38 rfl (by first | exact Or.inl rfl | exact Or.inr rfl | exact bI_or _ | omega) ⟨rfl, Nat.le_refl _⟩ (qp_i ?_ rfl)
        have e : lackB v = false := anyN_f (fun j hj => by rw [hno j (by omega)]; rfl)
        rw [e]; rfl
      · obtain ⟨ea, eb⟩ := e5 k (by omega) (by omega)
        refine x_aload_n 11 0 dX1_lacksTown_10 rfl rfl (by decide) rfl ?_
        refine x_aload_n 12 0 dX1_lacksTown_11 rfl rfl (by decide) rfl ?_
        refine x_getR 15 4 (o + 5) dX1_lacksTown_12 rfl fX1_24 rfl (lg_s ho) (lg_r4 ho) ?_
        refine x_iload_n 16 1 dX1_lacksTown_15 rfl rfl (by decide) rfl ?_
        refine x_iaload 17 dX1_lacksTown_16 rfl (lg_a4 ho) (by omega) (fun g16 => ?_)
        refine x_aload_n 18 0 dX1_lacksTown_17 rfl rfl (by decide) rfl ?_
        refine x_getR 21 5 (o + 6) dX1_lacksTown_18 rfl fX1_27 rfl (lg_s ho) (lg_r5 ho) ?_
        refine x_iload_n 22 1 dX1_lacksTown_21 rfl rfl (by decide) rfl ?_
        refine x_iaload 23 dX1_lacksTown_22 rfl (lg_a5 ho) (by omega) (fun g22 => ?_)
        refine x_vp 26 [_, _] (c_hasPair ho _ _ (by omega) (by omega)) mX1_hasPair kX1_48 dX1_lacksTown_23 rfl (lg_s ho) ⟨by decide, rfl⟩ rfl rfl (Nat.le_of_ble_eq_true rfl) (by decide) ?_
        refine x_ifne_b 31 29 dX1_lacksTown_26 (by decide) rfl (fun h26 => ?_) (fun h26 => ?_)
        · refine x_iinc 34 _ dX1_lacksTown_31 rfl (by decide) rfl rfl rfl ?_
          refine x_goto 2 dX1_lacksTown_34 (by decide) ?_
          refine ih (k + 1) (by omega) (by omega) (fun j hj => ?_)
          by_cases e : j = k
          · subst e; unfold pairB; rw [decide_eq_true_eq, ← e6, ← ea, ← eb]; assumption
          · exact hno j (by omega)
        · refine x_iconst 30 dX1_lacksTown_29 rfl ?_
          refine x_zret dX1_lacksTown_30 rfl (by first | exact Or.inl rfl | exact Or.inr rfl | exact bI_or _ | omega) ⟨rfl, Nat.le_refl _⟩ (qp_i ?_ rfl)
          refine (bI_t (anyN_t (k := k) (by omega) ?_)).symm
          have e : pairB v (vA v k) (vB v k) = false := by (unfold pairB; rw [decide_eq_false_iff_not, ← e6, ← ea, ← eb]; assumption)
          show (!pairB v (vA v k) (vB v k)) = true
          rw [e]; rfl
  refine x_iconst 1 dX1_lacksTown_0 rfl ?_
  refine x_istore_n 2 1 _ dX1_lacksTown_1 rfl rfl (by decide) rfl rfl ?_
  exact loop ((vf v).toNat + 1) 0 (by omega) (by omega) (fun j hj => by omega)

set_option maxHeartbeats 4000000 in
theorem c_swapFixtures {g : GG} {M : Mem} {o : Nat} {v : LV} (ho : isLg o) (hR : Rep M o v) (hf : vf v ≤ 10) (i j : Int) (hi : 0 ≤ i ∧ i < vf v) (hj : 0 ≤ j ∧ j < vf v) : CV g tX1_swapFixtures 0 [rv g o, iv i, iv j] M (fun M2 => Rep M2 o (swapV v i j) ∧ Fr o M M2) := by
  refine Con.of [some (rv g o), some (iv i), some (iv j), none, none] (by decide +kernel) rfl (Nat.le_of_ble_eq_true rfl) ?_
  obtain ⟨ei1, ei2⟩ := hR.2.2.2.2 i hi.1 hi.2
  obtain ⟨ej1, ej2⟩ := hR.2.2.2.2 j hj.1 hj.2
  refine x_aload_n 1 0 dX1_swapFixtures_0 rfl rfl (by decide) rfl ?_
  refine x_getR 4 4 (o + 5) dX1_swapFixtures_1 rfl fX1_24 rfl (lg_s ho) (lg_r4 ho) ?_
  refine x_iload_n 5 1 dX1_swapFixtures_4 rfl rfl (by decide) rfl ?_
  refine x_iaload 6 dX1_swapFixtures_5 rfl (lg_a4 ho) (by omega) (fun g5 => ?_)
  refine x_istore_n 7 3 _ dX1_swapFixtures_6 rfl rfl (by decide) rfl rfl ?_
  refine x_aload_n 8 0 dX1_swapFixtures_7 rfl rfl (by decide) rfl ?_
  refine x_getR 11 5 (o + 6) dX1_swapFixtures_8 rfl fX1_27 rfl (lg_s ho) (lg_r5 ho) ?_
  refine x_iload_n 12 1 dX1_swapFixtures_11 rfl rfl (by decide) rfl ?_
  refine x_iaload 13 dX1_swapFixtures_12 rfl (lg_a5 ho) (by omega) (fun g12 => ?_)
  refine x_istore 15 4 _ dX1_swapFixtures_13 rfl (by decide) rfl rfl ?_
  refine x_aload_n 16 0 dX1_swapFixtures_15 rfl rfl (by decide) rfl ?_
  refine x_getR 19 4 (o + 5) dX1_swapFixtures_16 rfl fX1_24 rfl (lg_s ho) (lg_r4 ho) ?_
  refine x_iload_n 20 1 dX1_swapFixtures_19 rfl rfl (by decide) rfl ?_
  refine x_aload_n 21 0 dX1_swapFixtures_20 rfl rfl (by decide) rfl ?_
  refine x_getR 24 4 (o + 5) dX1_swapFixtures_21 rfl fX1_24 rfl (lg_s ho) (lg_r4 ho) ?_
  refine x_iload_n 25 2 dX1_swapFixtures_24 rfl rfl (by decide) rfl ?_
  refine x_iaload 26 dX1_swapFixtures_25 rfl (lg_a4 ho) (by omega) (fun g25 => ?_)
  refine x_iastore 27 dX1_swapFixtures_26 rfl (lg_a4 ho) (by omega) (by omega) ?_
  refine x_aload_n 28 0 dX1_swapFixtures_27 rfl rfl (by decide) rfl ?_
  refine x_getR 31 5 (o + 6) dX1_swapFixtures_28 rfl fX1_27 rfl (lg_s ho) (lg_r5 ho) ?_
  refine x_iload_n 32 1 dX1_swapFixtures_31 rfl rfl (by decide) rfl ?_
  refine x_aload_n 33 0 dX1_swapFixtures_32 rfl rfl (by decide) rfl ?_
  refine x_getR 36 5 (o + 6) dX1_swapFixtures_33 rfl fX1_27 rfl (lg_s ho) (lg_r5 ho) ?_
  refine x_iload_n 37 2 dX1_swapFixtures_36 rfl rfl (by decide) rfl ?_
  refine x_iaload 38 dX1_swapFixtures_37 rfl (lg_a5 ho) (by omega) (fun g37 => ?_)
  refine x_iastore 39 dX1_swapFixtures_38 rfl (lg_a5 ho) (by omega) (by omega) ?_
  refine x_aload_n 40 0 dX1_swapFixtures_39 rfl rfl (by decide) rfl ?_
  refine x_getR 43 4 (o + 5) dX1_swapFixtures_40 rfl fX1_24 rfl (lg_s ho) (lg_r4 ho) ?_
  refine x_iload_n 44 2 dX1_swapFixtures_43 rfl rfl (by decide) rfl ?_
  refine x_iload_n 45 3 dX1_swapFixtures_44 rfl rfl (by decide) rfl ?_
  refine x_iastore 46 dX1_swapFixtures_45 rfl (lg_a4 ho) (by omega) (by omega) ?_
  refine x_aload_n 47 0 dX1_swapFixtures_46 rfl rfl (by decide) rfl ?_
  refine x_getR 50 5 (o + 6) dX1_swapFixtures_47 rfl fX1_27 rfl (lg_s ho) (lg_r5 ho) ?_
  refine x_iload_n 51 2 dX1_swapFixtures_50 rfl rfl (by decide) rfl ?_
  refine x_iload 53 4 dX1_swapFixtures_51 rfl (by decide) rfl ?_
  refine x_iastore 54 dX1_swapFixtures_53 rfl (lg_a5 ho) (by omega) (by omega) ?_
  refine x_vret dX1_swapFixtures_54 rfl ⟨rfl, Nat.le_refl _⟩ (qv_i ?_)
  refine ⟨?_, ((((Fr.rf o M).up _ _ _ (by omega)).up _ _ _ (by omega)).up _ _ _ (by omega)).up _ _ _ (by omega)⟩
  rw [up2_o M _ _ (show o + 6 ≠ o + 5 by omega), ei1, ei2, ej1, ej2]
  exact Rep_B (Rep_A (Rep_B (Rep_A hR i (vA v j)) i (vB v j)) j (vA v i)) j (vB v i)

set_option maxHeartbeats 4000000 in
theorem c_moveStrength {g : GG} {M : Mem} {o : Nat} {v : LV} (ho : isLg o) (hR : Rep M o v) (hW : WF v) (a b n : Int) (ha : 0 ≤ a ∧ a < vn v) (hb : 0 ≤ b ∧ b < vn v) (hne : a ≠ b) (hn : 0 ≤ n ∧ n ≤ 20) : CI g tX1_moveStrength 0 [rv g o, iv a, iv b, iv n] M (fun r M2 => r = lendR v a b n ∧ Rep M2 o (lendV v a b n) ∧ Fr o M M2) := by
  refine Con.of [some (rv g o), some (iv a), some (iv b), some (iv n)] (by decide +kernel) rfl (Nat.le_of_ble_eq_true rfl) ?_
  have h1 := hW.1
  have ea := (hR.2.2.2.1 a ha.1 ha.2).2.1
  have eb := (hR.2.2.2.1 b hb.1 hb.2).2.1
  have ba := (hW.2.2.2.1 a ha.1 ha.2).2.1
  have bb := (hW.2.2.2.1 b hb.1 hb.2).2.1
  refine x_aload_n 1 0 dX1_moveStrength_0 rfl rfl (by decide) rfl ?_
  refine x_getR 4 1 (o + 2) dX1_moveStrength_1 rfl fX1_15 rfl (lg_s ho) (lg_r1 ho) ?_
  refine x_iload_n 5 1 dX1_moveStrength_4 rfl rfl (by decide) rfl ?_
  refine x_iaload 6 dX1_moveStrength_5 rfl (lg_a1 ho) (by omega) (fun g5 => ?_)
  refine x_iload_n 7 3 dX1_moveStrength_6 rfl rfl (by decide) rfl ?_
  refine x_icmp_ge 13 10 dX1_moveStrength_7 (by decide) rfl (by omega) (fun h7 => ?_) (fun h7 => ?_)
  · refine x_aload_n 14 0 dX1_moveStrength_13 rfl rfl (by decide) rfl ?_
    refine x_getR 17 1 (o + 2) dX1_moveStrength_14 rfl fX1_15 rfl (lg_s ho) (lg_r1 ho) ?_
    refine x_iload_n 18 2 dX1_moveStrength_17 rfl rfl (by decide) rfl ?_
    refine x_iaload 19 dX1_moveStrength_18 rfl (lg_a1 ho) (by omega) (fun g18 => ?_)
    refine x_iload_n 20 3 dX1_moveStrength_19 rfl rfl (by decide) rfl ?_
    refine x_iadd 21 dX1_moveStrength_20 rfl ?_
    refine x_bipush 23 dX1_moveStrength_21 rfl (by decide) ?_
    refine x_icmp_le 29 26 dX1_moveStrength_23 (by decide) rfl (by omega) (fun h23 => ?_) (fun h23 => ?_)
    · refine x_aload_n 30 0 dX1_moveStrength_29 rfl rfl (by decide) rfl ?_
      refine x_getR 33 1 (o + 2) dX1_moveStrength_30 rfl fX1_15 rfl (lg_s ho) (lg_r1 ho) ?_
      refine x_iload_n 34 1 dX1_moveStrength_33 rfl rfl (by decide) rfl ?_
      refine x_dup2 35 dX1_moveStrength_34 rfl rfl rfl ?_
      refine x_iaload 36 dX1_moveStrength_35 rfl (lg_a1 ho) (by omega) (fun g35 => ?_)
      refine x_iload_n 37 3 dX1_moveStrength_36 rfl rfl (by decide) rfl ?_
      refine x_isub 38 dX1_moveStrength_37 rfl ?_
      refine x_iastore 39 dX1_moveStrength_38 rfl (lg_a1 ho) (by omega) (by omega) ?_
      refine x_aload_n 40 0 dX1_moveStrength_39 rfl rfl (by decide) rfl ?_
      refine x_getR 43 1 (o + 2) dX1_moveStrength_40 rfl fX1_15 rfl (lg_s ho) (lg_r1 ho) ?_
      refine x_iload_n 44 2 dX1_moveStrength_43 rfl rfl (by decide) rfl ?_
      refine x_dup2 45 dX1_moveStrength_44 rfl rfl rfl ?_
      refine x_iaload 46 dX1_moveStrength_45 rfl (lg_a1 ho) (by omega) (fun g45 => ?_)
      rw [up2_k _ _ _ (show b ≠ a from fun e => hne e.symm)]
      refine x_iload_n 47 3 dX1_moveStrength_46 rfl rfl (by decide) rfl ?_
      refine x_iadd 48 dX1_moveStrength_47 rfl ?_
      refine x_iastore 49 dX1_moveStrength_48 rfl (lg_a1 ho) (by omega) (by omega) ?_
      refine x_aload_n 50 0 dX1_moveStrength_49 rfl rfl (by decide) rfl ?_
      refine x_getR 53 1 (o + 2) dX1_moveStrength_50 rfl fX1_15 rfl (lg_s ho) (lg_r1 ho) ?_
      refine x_iload_n 54 1 dX1_moveStrength_53 rfl rfl (by decide) rfl ?_
      refine x_iaload 55 dX1_moveStrength_54 rfl (lg_a1 ho) (by omega) (fun g54 => ?_)
      refine x_iret dX1_moveStrength_55 rfl ⟨rfl, Nat.le_refl _⟩ (qi_i ?_)
      refine ⟨?_, ?_, ((Fr.rf o M).up _ _ _ (by omega)).up _ _ _ (by omega)⟩
      · unfold lendR; rw [if_neg (by omega), if_neg (by omega), up2_k _ _ _ hne, up2_s, ea]
      · unfold lendV; rw [if_neg (by omega), if_neg (by omega), ea, eb]; exact Rep_S (Rep_S hR a (vS v a - n)) b (vS v b + n)
    · refine x_bipush 28 dX1_moveStrength_26 rfl (by decide) ?_
      refine x_iret dX1_moveStrength_28 rfl ⟨rfl, Nat.le_refl _⟩ (qi_i ?_)
      refine ⟨?_, ?_, Fr.rf o M⟩
      · unfold lendR; rw [if_neg (by omega), if_pos (by omega)]
      · unfold lendV; rw [if_neg (by omega), if_pos (by omega)]; exact hR
  · refine x_bipush 12 dX1_moveStrength_10 rfl (by decide) ?_
    refine x_iret dX1_moveStrength_12 rfl ⟨rfl, Nat.le_refl _⟩ (qi_i ?_)
    refine ⟨?_, ?_, Fr.rf o M⟩
    · unfold lendR; rw [if_pos (by omega)]
    · unfold lendV; rw [if_pos (by omega)]; exact hR
