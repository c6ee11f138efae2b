set_option maxHeartbeats 4000000 in
theorem c_sumOver {g : GG} {M : Mem} {o q : Nat} (ho : isLg o) (hq : S0[q]? = some (.inr (0, 5))) (n : Nat) (hn : M o 6 = n) (hn5 : n ≤ 5) (hb : ∀ t : Int, 0 ≤ t → t < n → 0 ≤ M q t ∧ M q t ≤ 99) : CP g tX1_sumOverTowns 0 [rv g o, rv g q] M (sumN (M q) n) := by
  refine Con.of [some (rv g o), some (rv g q), none, none] (by decide +kernel) rfl (Nat.le_of_ble_eq_true rfl) ?_
  have loop : ∀ (m k : Nat), n - k < m → k ≤ n → X g tX1_sumOverTowns (kk0 0) 4 [some (rv g o), some (rv g q), some (iv (sumN (M q) k)), some (iv k)] [] (S0, R0, M) (QP M (sumN (M q) n)) := by
    intro m
    induction m with
    | zero => intro k k1 k2; omega
    | succ m ih =>
      intro k k1 k2
      have hb1 := sumN_bd (f := M q) (c := 99) (by omega) k (fun t a b => hb t a (by omega))
      refine x_iload_n 5 3 dX1_sumOverTowns_4 rfl rfl (by decide) rfl ?_
      refine x_aload_n 6 0 dX1_sumOverTowns_5 rfl rfl (by decide) rfl ?_
      refine x_getI 9 6 6 rfl dX1_sumOverTowns_6 rfl fX1_30 rfl (lg_s ho) (fun g6 => ?_)
      refine x_icmp_ge 30 12 dX1_sumOverTowns_9 (by decide) rfl (by omega) (fun h9 => ?_) (fun h9 => ?_)
      · refine x_iload_n 31 2 dX1_sumOverTowns_30 rfl rfl (by decide) rfl ?_
        refine x_iret dX1_sumOverTowns_31 rfl ⟨rfl, Nat.le_refl _⟩ (qp_i ?_ rfl)
        have hk : k = n := by omega
        rw [hk]
      · refine x_iload_n 13 3 dX1_sumOverTowns_12 rfl rfl (by decide) rfl ?_
        refine x_aload_n 14 1 dX1_sumOverTowns_13 rfl rfl (by decide) rfl ?_
        refine x_alen 15 (by decide) dX1_sumOverTowns_14 rfl hq 5 rfl ?_
        refine x_icmp_ge 30 18 dX1_sumOverTowns_15 (by decide) rfl (by omega) (fun h15 => ?_) (fun h15 => ?_)
        · exfalso; omega
        · refine x_iload_n 19 2 dX1_sumOverTowns_18 rfl rfl (by decide) rfl ?_
          refine x_aload_n 20 1 dX1_sumOverTowns_19 rfl rfl (by decide) rfl ?_
          refine x_iload_n 21 3 dX1_sumOverTowns_20 rfl rfl (by decide) rfl ?_
          refine x_iaload 22 dX1_sumOverTowns_21 rfl hq (by omega) (fun g21 => ?_)
          refine x_iadd 23 dX1_sumOverTowns_22 rfl ?_
          refine x_istore_n 24 2 _ dX1_sumOverTowns_23 rfl rfl (by decide) rfl rfl ?_
          refine x_iinc 27 _ dX1_sumOverTowns_24 rfl (by decide) rfl rfl rfl ?_
          refine x_goto 4 dX1_sumOverTowns_27 (by decide) ?_
          exact ih (k + 1) (by omega) (by omega)
  refine x_iconst 1 dX1_sumOverTowns_0 rfl ?_
  refine x_istore_n 2 2 _ dX1_sumOverTowns_1 rfl rfl (by decide) rfl rfl ?_
  refine x_iconst 3 dX1_sumOverTowns_2 rfl ?_
  refine x_istore_n 4 3 _ dX1_sumOverTowns_3 rfl rfl (by decide) rfl rfl ?_
  exact loop (n + 1) 0 (by omega) (by omega)

set_option maxHeartbeats 4000000 in
theorem c_owed {g : GG} {M : Mem} {o : Nat} {v : LV} (ho : isLg o) (hR : Rep M o v) (hW : WF v) : CP g tX1_owed 1 [rv g o] M (owed v) := by
  refine Con.of [some (rv g o)] (by decide +kernel) rfl (Nat.le_of_ble_eq_true rfl) ?_
  have h1 := hW.1
  obtain ⟨e6, -, -, e4, -⟩ := id hR
  have hs := c_sumOver (g := g) (M := M) ho (lg_a3 ho) (vn v).toNat (by omega) (by omega) (fun t a b => by rw [(e4 t a (by omega)).2.2.2]; exact (hW.2.2.2.1 t a (by omega)).2.2.2)
  rw [sumN_cong (f2 := vO v) (vn v).toNat (fun t a b => (e4 t a (by omega)).2.2.2)] at hs
  refine x_aload_n 1 0 dX1_owed_0 rfl rfl (by decide) rfl ?_
  refine x_aload_n 2 0 dX1_owed_1 rfl rfl (by decide) rfl ?_
  refine x_getR 5 3 (o + 4) dX1_owed_2 rfl fX1_21 rfl (lg_s ho) (lg_r3 ho) ?_
  refine x_vp 8 [_] (hs) mX1_sumOverTowns kX1_94 dX1_owed_5 rfl (lg_s ho) ⟨by decide, rfl⟩ rfl rfl (Nat.le_of_ble_eq_true rfl) (by decide) ?_
  refine x_iret dX1_owed_8 rfl ⟨rfl, Nat.le_refl _⟩ (qp_i ?_ rfl)
  rfl

set_option maxHeartbeats 4000000 in
theorem c_firstLoss {g : GG} {M : Mem} {o : Nat} {v : LV} (ho : isLg o) (hR : Rep M o v) (hW : WF v) (t : Int) (ht : -2147483648 ≤ t ∧ t ≤ 2147483647) (n : Nat) (hn : n ≤ 100) (hw : vw v ≤ 10000) : CI g tX1_firstLoss 5 [rv g o, iv t, iv n] M (fun r M2 => r = flN v t n ∧ Fr o M M2) := by
  refine Con.of [some (rv g o), some (iv t), some (iv n), none] (by decide +kernel) rfl (Nat.le_of_ble_eq_true rfl) ?_
  have loop : ∀ (m k : Nat) (M2 : Mem), n - k < m → k ≤ n → Rep M2 o (goV v k) → Fr o M M2 → (∀ j, j < k → wkL (goV v j) 0 ≠ t) → X g tX1_firstLoss (kk0 5) 2 [some (rv g o), some (iv t), some (iv n), some (iv k)] [] (S0, R0, M2) (QI (fun r M3 => r = flN v t n ∧ Fr o M M3)) := by
    intro m
    induction m with
    | zero => intro k M2 k1 k2; omega
    | succ m ih =>
      intro k M2 k1 k2 hR2 hF hno
      have hgw := goV_w v k
      have hin := wkL_in (goV_WF hW k) 0
      have hn5 := (goV_WF hW k).1
      refine x_iload_n 3 3 dX1_firstLoss_2 rfl rfl (by decide) rfl ?_
      refine x_iload_n 4 2 dX1_firstLoss_3 rfl rfl (by decide) rfl ?_
      refine x_icmp_ge 24 7 dX1_firstLoss_4 (by decide) rfl (by omega) (fun h4 => ?_) (fun h4 => ?_)
      · refine x_bipush 26 dX1_firstLoss_24 rfl (by decide) ?_
        refine x_iret dX1_firstLoss_26 rfl ⟨rfl, Nat.le_refl _⟩ (qi_i ?_)
        have hk : k = n := by omega
        subst hk
        exact ⟨(firstN_no (fun j hj => decide_eq_false (hno j hj))).symm, hF⟩
      · refine x_aload_n 8 0 dX1_firstLoss_7 rfl rfl (by decide) rfl ?_
        refine x_iconst 9 dX1_firstLoss_8 rfl ?_
        refine x_vi 12 [_] (c_runWeek ho hR2 (goV_WF hW k) (by omega) 0 (Or.inl rfl)) mX1_runWeek kX1_90 dX1_firstLoss_9 rfl (lg_s ho) ⟨by decide, rfl⟩ rfl rfl (Nat.le_of_ble_eq_true rfl) (by decide) (fun r M3 q3 => ?_)
        obtain ⟨rfl, hR3, hF3⟩ := q3
        refine x_iload_n 13 1 dX1_firstLoss_12 rfl rfl (by decide) rfl ?_
        refine x_icmp_ne 18 16 dX1_firstLoss_13 (by decide) rfl (by omega) (fun h13 => ?_) (fun h13 => ?_)
        · refine x_iinc 21 _ dX1_firstLoss_18 rfl (by decide) rfl rfl rfl ?_
          refine x_goto 2 dX1_firstLoss_21 (by decide) ?_
          refine ih (k + 1) _ (by omega) (by omega) hR3 (hF.tr hF3) (fun j hj => ?_)
          by_cases e : j = k
          · subst e; assumption
          · exact hno j (by omega)
        · refine x_iload_n 17 3 dX1_firstLoss_16 rfl rfl (by decide) rfl ?_
          refine x_iret dX1_firstLoss_17 rfl ⟨rfl, Nat.le_refl _⟩ (qi_i ?_)
          refine ⟨?_, hF.tr hF3⟩
          exact (firstN_at (fun j hj => decide_eq_false (hno j hj)) (decide_eq_true (by assumption)) (by omega)).symm
  refine x_iconst 1 dX1_firstLoss_0 rfl ?_
  refine x_istore_n 2 3 _ dX1_firstLoss_1 rfl rfl (by decide) rfl rfl ?_
  exact loop (n + 1) 0 M (by omega) (by omega) hR (Fr.rf o M) (fun j hj => by omega)

set_option maxHeartbeats 4000000 in
theorem c_withLosses {g : GG} {M : Mem} {o : Nat} {v : LV} (ho : isLg o) (hR : Rep M o v) (hW : WF v) : CP g tX1_withLosses 0 [rv g o] M (lossB v) := by
  refine Con.of [some (rv g o), none, none] (by decide +kernel) rfl (Nat.le_of_ble_eq_true rfl) ?_
  have h1 := hW.1
  obtain ⟨e6, -, -, e4, -⟩ := id hR
  have loop : ∀ (m k : Nat), (vn v).toNat - k < m → k ≤ (vn v).toNat → X g tX1_withLosses (kk0 0) 4 [some (rv g o), some (iv (bitN (fun t => decide (0 < vL v t)) k)), some (iv k)] [] (S0, R0, M) (QP M (lossB v)) := by
    intro m
    induction m with
    | zero => intro k k1 k2; omega
    | succ m ih =>
      intro k k1 k2
      have hbn := bitN_lt (fun t => decide (0 < vL v t)) k
      refine x_iload_n 5 2 dX1_withLosses_4 rfl rfl (by decide) rfl ?_
      refine x_aload_n 6 0 dX1_withLosses_5 rfl rfl (by decide) rfl ?_
      refine x_getI 9 6 6 rfl dX1_withLosses_6 rfl fX1_30 rfl (lg_s ho) (fun g6 => ?_)
      refine x_icmp_ge 33 12 dX1_withLosses_9 (by decide) rfl (by omega) (fun h9 => ?_) (fun h9 => ?_)
      · refine x_iload_n 34 1 dX1_withLosses_33 rfl rfl (by decide) rfl ?_
        refine x_iret dX1_withLosses_34 rfl ⟨rfl, Nat.le_refl _⟩ (qp_i ?_ rfl)
        have hk : k = (vn v).toNat := by omega
        rw [hk]; rfl
      · refine x_aload_n 13 0 dX1_withLosses_12 rfl rfl (by decide) rfl ?_
        refine x_getR 16 2 (o + 3) dX1_withLosses_13 rfl fX1_18 rfl (lg_s ho) (lg_r2 ho) ?_
        refine x_iload_n 17 2 dX1_withLosses_16 rfl rfl (by decide) rfl ?_
        refine x_iaload 18 dX1_withLosses_17 rfl (lg_a2 ho) (by omega) (fun g17 => ?_)
        have e3 := (e4 k (by omega) (by omega)).2.2.1
        refine x_if_le 27 21 dX1_withLosses_18 (by decide) rfl (by omega) (fun h18 => ?_) (fun h18 => ?_)
        · refine x_iinc 30 _ dX1_withLosses_27 rfl (by decide) rfl rfl rfl ?_
          refine x_goto 4 dX1_withLosses_30 (by decide) ?_
          have ih2 := ih (k + 1) (by omega) (by omega)
          have hg : bitN (fun t => decide (0 < vL v t)) (k + 1) = bitN (fun t => decide (0 < vL v t)) k + (if decide (0 < vL v k) then 2 ^ k else 0) := rfl
          first | rw [if_pos (decide_eq_true (by omega))] at hg | rw [if_neg (by rw [decide_eq_true_eq]; omega), Nat.add_zero] at hg
          rw [hg] at ih2
          exact ih2
        · refine x_iload_n 22 1 dX1_withLosses_21 rfl rfl (by decide) rfl ?_
          refine x_iconst 23 dX1_withLosses_22 rfl ?_
          refine x_iload_n 24 2 dX1_withLosses_23 rfl rfl (by decide) rfl ?_
          refine x_ishl 25 ((2 ^ k : Nat) : Int) dX1_withLosses_24 rfl (shl1 (by omega)) ?_
          refine x_ior 26 ((bitN (fun t => decide (0 < vL v t)) k + 2 ^ k : Nat) : Int) dX1_withLosses_25 rfl (or_bit hbn) ?_
          refine x_istore_n 27 1 _ dX1_withLosses_26 rfl rfl (by decide) rfl rfl ?_
          refine x_iinc 30 _ dX1_withLosses_27 rfl (by decide) rfl rfl rfl ?_
          refine x_goto 4 dX1_withLosses_30 (by decide) ?_
          have ih2 := ih (k + 1) (by omega) (by omega)
          have hg : bitN (fun t => decide (0 < vL v t)) (k + 1) = bitN (fun t => decide (0 < vL v t)) k + (if decide (0 < vL v k) then 2 ^ k else 0) := rfl
          first | rw [if_pos (decide_eq_true (by omega))] at hg | rw [if_neg (by rw [decide_eq_true_eq]; omega), Nat.add_zero] at hg
          rw [hg] at ih2
          exact ih2
  refine x_iconst 1 dX1_withLosses_0 rfl ?_
  refine x_istore_n 2 1 _ dX1_withLosses_1 rfl rfl (by decide) rfl rfl ?_
  refine x_iconst 3 dX1_withLosses_2 rfl ?_
  refine x_istore_n 4 2 _ dX1_withLosses_3 rfl rfl (by decide) rfl rfl ?_
  exact loop ((vn v).toNat + 1) 0 (by omega) (by omega)

set_option maxHeartbeats 4000000 in
theorem c_become {g : GG} {M : Mem} {o p : Nat} {v : LV} (ho : isLg o) (hp : isLg p) (hne : o ≠ p) (hR : Rep M p v) (hW : WF v) : CV g tX1_become 0 [rv g o, rv g p] M (fun M2 => Rep M2 o v ∧ Fr o M M2) := by
  refine Con.of [some (rv g o), some (rv g p), none] (by decide +kernel) rfl (Nat.le_of_ble_eq_true rfl) ?_
  have h1 := hW.1
  have h2 := hW.2.1
  obtain ⟨e6, e7, e8, e4, e5⟩ := id hR
  have hap := lg_apart ho hp hne
  have hap0 : p < o ∨ o + 6 < p := hap 0 (by omega)
  have loop2 : ∀ (m : Nat) (i : Int) (M2 : Mem), vf v - i < m → 0 ≤ i → i ≤ vf v → PB M2 o v (vn v) i → Fr o M M2 → X g tX1_become (kk0 0) 90 [some (rv g o), some (rv g p), some (iv i)] [] (S0, R0, M2) (QV (fun M3 => Rep M3 o v ∧ Fr o M M3)) := by
    intro m
    induction m with
    | zero => intro i M2 k1 k2 k3; omega
    | succ m ih =>
      intro i M2 k1 k2 k3 hB hF
      have b7 : M2 o 7 = vf v := hB.2.1
      have hp5 : M2 (p + 5) = M (p + 5) := hF _ (hap 5 (by omega))
      have hp6 : M2 (p + 6) = M (p + 6) := hF _ (hap 6 (by omega))
      refine x_iload_n 91 2 dX1_become_90 rfl rfl (by decide) rfl ?_
      refine x_aload_n 92 0 dX1_become_91 rfl rfl (by decide) rfl ?_
      refine x_getI 95 7 7 rfl dX1_become_92 rfl fX1_34 rfl (lg_s ho) (fun g92 => ?_)
      refine x_icmp_ge 128 98 dX1_become_95 (by decide) rfl (by omega) (fun h95 => ?_) (fun h95 => ?_)
      · refine x_vret dX1_become_128 rfl ⟨rfl, Nat.le_refl _⟩ (qv_i ?_)
        exact ⟨⟨hB.1, hB.2.1, hB.2.2.1, hB.2.2.2.1, fun t a b => hB.2.2.2.2 t a (by omega)⟩, hF⟩
      · have ee := e5 i (by omega) (by omega)
        refine x_aload_n 99 0 dX1_become_98 rfl rfl (by decide) rfl ?_
        refine x_getR 102 4 (o + 5) dX1_become_99 rfl fX1_24 rfl (lg_s ho) (lg_r4 ho) ?_
        refine x_iload_n 103 2 dX1_become_102 rfl rfl (by decide) rfl ?_
        refine x_aload_n 104 1 dX1_become_103 rfl rfl (by decide) rfl ?_
        refine x_getR 107 4 (p + 5) dX1_become_104 rfl fX1_24 rfl (lg_s hp) (lg_r4 hp) ?_
        refine x_iload_n 108 2 dX1_become_107 rfl rfl (by decide) rfl ?_
        refine x_iaload 109 dX1_become_108 rfl (lg_a4 hp) (by omega) (fun g108 => ?_)
        refine x_iastore 110 dX1_become_109 rfl (lg_a4 ho) (by omega) (by omega) ?_
        refine x_aload_n 111 0 dX1_become_110 rfl rfl (by decide) rfl ?_
        refine x_getR 114 5 (o + 6) dX1_become_111 rfl fX1_27 rfl (lg_s ho) (lg_r5 ho) ?_
        refine x_iload_n 115 2 dX1_become_114 rfl rfl (by decide) rfl ?_
        refine x_aload_n 116 1 dX1_become_115 rfl rfl (by decide) rfl ?_
        refine x_getR 119 5 (p + 6) dX1_become_116 rfl fX1_27 rfl (lg_s hp) (lg_r5 hp) ?_
        refine x_iload_n 120 2 dX1_become_119 rfl rfl (by decide) rfl ?_
        refine x_iaload 121 dX1_become_120 rfl (lg_a5 hp) (by omega) (fun g120 => ?_)
        refine x_iastore 122 dX1_become_121 rfl (lg_a5 ho) (by omega) (by omega) ?_
        refine x_iinc 125 _ dX1_become_122 rfl (by decide) rfl rfl rfl ?_
        refine x_goto 90 dX1_become_125 (by decide) ?_
        refine ih (i + 1) _ (by omega) (by omega) (by omega) (PB_i hB ?_ ?_) ((hF.up _ _ _ (by omega)).up _ _ _ (by omega))
        · rw [hp5]; exact ee.1
        · rw [up2_o _ _ _ (by have := hap 6 (by omega); omega), hp6]; exact ee.2
  have loop1 : ∀ (m : Nat) (i : Int) (M2 : Mem), vn v - i < m → 0 ≤ i → i ≤ vn v → PB M2 o v i 0 → Fr o M M2 → X g tX1_become (kk0 0) 26 [some (rv g o), some (rv g p), some (iv i)] [] (S0, R0, M2) (QV (fun M3 => Rep M3 o v ∧ Fr o M M3)) := by
    intro m
    induction m with
    | zero => intro i M2 k1 k2 k3; omega
    | succ m ih =>
      intro i M2 k1 k2 k3 hB hF
      have b6 : M2 o 6 = vn v := hB.1
      have hp1 : M2 (p + 1) = M (p + 1) := hF _ (hap 1 (by omega))
      have hp2 : M2 (p + 2) = M (p + 2) := hF _ (hap 2 (by omega))
      have hp3 : M2 (p + 3) = M (p + 3) := hF _ (hap 3 (by omega))
      have hp4 : M2 (p + 4) = M (p + 4) := hF _ (hap 4 (by omega))
      refine x_iload_n 27 2 dX1_become_26 rfl rfl (by decide) rfl ?_
      refine x_aload_n 28 0 dX1_become_27 rfl rfl (by decide) rfl ?_
      refine x_getI 31 6 6 rfl dX1_become_28 rfl fX1_30 rfl (lg_s ho) (fun g28 => ?_)
      refine x_icmp_ge 88 34 dX1_become_31 (by decide) rfl (by omega) (fun h31 => ?_) (fun h31 => ?_)
      · refine x_iconst 89 dX1_become_88 rfl ?_
        refine x_istore_n 90 2 _ dX1_become_89 rfl rfl (by decide) rfl rfl ?_
        have hi : i = vn v := by omega
        subst hi
        exact loop2 ((vf v).toNat + 1) 0 M2 (by omega) (by omega) (by omega) hB hF
      · have ee := e4 i (by omega) (by omega)
        refine x_aload_n 35 0 dX1_become_34 rfl rfl (by decide) rfl ?_
        refine x_getR 38 0 (o + 1) dX1_become_35 rfl fX1_9 rfl (lg_s ho) (lg_r0 ho) ?_
        refine x_iload_n 39 2 dX1_become_38 rfl rfl (by decide) rfl ?_
        refine x_aload_n 40 1 dX1_become_39 rfl rfl (by decide) rfl ?_
        refine x_getR 43 0 (p + 1) dX1_become_40 rfl fX1_9 rfl (lg_s hp) (lg_r0 hp) ?_
        refine x_iload_n 44 2 dX1_become_43 rfl rfl (by decide) rfl ?_
        refine x_iaload 45 dX1_become_44 rfl (lg_a0 hp) (by omega) (fun g44 => ?_)
        refine x_iastore 46 dX1_become_45 rfl (lg_a0 ho) (by omega) (by omega) ?_
        refine x_aload_n 47 0 dX1_become_46 rfl rfl (by decide) rfl ?_
        refine x_getR 50 1 (o + 2) dX1_become_47 rfl fX1_15 rfl (lg_s ho) (lg_r1 ho) ?_
        refine x_iload_n 51 2 dX1_become_50 rfl rfl (by decide) rfl ?_
        refine x_aload_n 52 1 dX1_become_51 rfl rfl (by decide) rfl ?_
        refine x_getR 55 1 (p + 2) dX1_become_52 rfl fX1_15 rfl (lg_s hp) (lg_r1 hp) ?_
        refine x_iload_n 56 2 dX1_become_55 rfl rfl (by decide) rfl ?_
        refine x_iaload 57 dX1_become_56 rfl (lg_a1 hp) (by omega) (fun g56 => ?_)
        refine x_iastore 58 dX1_become_57 rfl (lg_a1 ho) (by omega) (by omega) ?_
        refine x_aload_n 59 0 dX1_become_58 rfl rfl (by decide) rfl ?_
        refine x_getR 62 2 (o + 3) dX1_become_59 rfl fX1_18 rfl (lg_s ho) (lg_r2 ho) ?_
        refine x_iload_n 63 2 dX1_become_62 rfl rfl (by decide) rfl ?_
        refine x_aload_n 64 1 dX1_become_63 rfl rfl (by decide) rfl ?_
        refine x_getR 67 2 (p + 3) dX1_become_64 rfl fX1_18 rfl (lg_s hp) (lg_r2 hp) ?_
        refine x_iload_n 68 2 dX1_become_67 rfl rfl (by decide) rfl ?_
        refine x_iaload 69 dX1_become_68 rfl (lg_a2 hp) (by omega) (fun g68 => ?_)
        refine x_iastore 70 dX1_become_69 rfl (lg_a2 ho) (by omega) (by omega) ?_
        refine x_aload_n 71 0 dX1_become_70 rfl rfl (by decide) rfl ?_
        refine x_getR 74 3 (o + 4) dX1_become_71 rfl fX1_21 rfl (lg_s ho) (lg_r3 ho) ?_
        refine x_iload_n 75 2 dX1_become_74 rfl rfl (by decide) rfl ?_
        refine x_aload_n 76 1 dX1_become_75 rfl rfl (by decide) rfl ?_
        refine x_getR 79 3 (p + 4) dX1_become_76 rfl fX1_21 rfl (lg_s hp) (lg_r3 hp) ?_
        refine x_iload_n 80 2 dX1_become_79 rfl rfl (by decide) rfl ?_
        refine x_iaload 81 dX1_become_80 rfl (lg_a3 hp) (by omega) (fun g80 => ?_)
        refine x_iastore 82 dX1_become_81 rfl (lg_a3 ho) (by omega) (by omega) ?_
        refine x_iinc 85 _ dX1_become_82 rfl (by decide) rfl rfl rfl ?_
        refine x_goto 26 dX1_become_85 (by decide) ?_
        refine ih (i + 1) _ (by omega) (by omega) (by omega) (PB_t hB ?_ ?_ ?_ ?_) ((((hF.up _ _ _ (by omega)).up _ _ _ (by omega)).up _ _ _ (by omega)).up _ _ _ (by omega))
        · rw [hp1]; exact ee.1
        · rw [up2_o _ _ _ (by have := hap 2 (by omega); omega), hp2]; exact ee.2.1
        · rw [up2_o _ _ _ (by have := hap 3 (by omega); omega), up2_o _ _ _ (by have := hap 3 (by omega); omega), hp3]; exact ee.2.2.1
        · rw [up2_o _ _ _ (by have := hap 4 (by omega); omega), up2_o _ _ _ (by have := hap 4 (by omega); omega), up2_o _ _ _ (by have := hap 4 (by omega); omega), hp4]; exact ee.2.2.2
  refine x_aload_n 1 0 dX1_become_0 rfl rfl (by decide) rfl ?_
  refine x_aload_n 2 1 dX1_become_1 rfl rfl (by decide) rfl ?_
  refine x_getI 5 6 6 rfl dX1_become_2 rfl fX1_30 rfl (lg_s hp) (fun g2 => ?_)
  refine x_putI 8 6 6 rfl dX1_become_5 rfl fX1_30 rfl rfl (lg_s ho) (by omega) ?_
  refine x_aload_n 9 0 dX1_become_8 rfl rfl (by decide) rfl ?_
  refine x_aload_n 10 1 dX1_become_9 rfl rfl (by decide) rfl ?_
  refine x_getI 13 7 7 rfl dX1_become_10 rfl fX1_34 rfl (lg_s hp) (fun g10 => ?_)
  refine x_putI 16 7 7 rfl dX1_become_13 rfl fX1_34 rfl rfl (lg_s ho) (by omega) ?_
  refine x_aload_n 17 0 dX1_become_16 rfl rfl (by decide) rfl ?_
  refine x_aload_n 18 1 dX1_become_17 rfl rfl (by decide) rfl ?_
  refine x_getI 21 8 8 rfl dX1_become_18 rfl fX1_37 rfl (lg_s hp) (fun g18 => ?_)
  refine x_putI 24 8 8 rfl dX1_become_21 rfl fX1_37 rfl rfl (lg_s ho) (by omega) ?_
  refine x_iconst 25 dX1_become_24 rfl ?_
  refine x_istore_n 26 2 _ dX1_become_25 rfl rfl (by decide) rfl rfl ?_
  refine loop1 ((vn v).toNat + 1) 0 _ (by omega) (by omega) (by omega) ⟨?_, ?_, ?_, fun t a b => by omega, fun t a b => by omega⟩ ((((Fr.rf o M).up _ _ _ (by omega)).up _ _ _ (by omega)).up _ _ _ (by omega))
  · rw [up2_k _ _ _ (by omega), up2_k _ _ _ (by omega), up2_s]; exact e6
  · rw [up2_k _ _ _ (by omega), up2_s, up2_o _ _ _ (by omega)]; exact e7
  · rw [up2_s, up2_o _ _ _ (by omega), up2_o _ _ _ (by omega)]; exact e8
