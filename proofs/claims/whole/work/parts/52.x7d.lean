/-- n weeks tried -/
def GoM (v : LV) (n : Nat) (M M2 : Mem) : Prop := M2 50 17 = goL v n ∧ M2 50 18 = (if vf v = 0 then 0 else (n : Int) - goL v n) ∧ (∀ k, n = k + 1 → M2 50 16 = wkL (goV v k) 0) ∧ RP M2 168 (goV v n) ∧ FP 168 M M2
theorem goL_s (v : LV) (n : Nat) : goL v (n + 1) = goL v n + (if 0 ≤ wkL (goV v n) 0 then 1 else 0) := rfl
theorem GoM_s {v : LV} {n : Nat} {M M2 M3 : Mem} (hW : WF v) (hn : n ≤ 200) (h : GoM v n M M2) (h2 : WkM 168 (goV v n) 0 M2 M3) : GoM v (n + 1) M M3 := by
  obtain ⟨a1, a2, a3, a4, a5⟩ := h
  obtain ⟨b1, b2, b3, b4, b5⟩ := h2
  have hb := goL_bd v n
  have hin := wkL_in (goV_WF hW n) 0
  have hs := goL_s v n
  have hf := goV_f v n
  have hw2 := hW.2.1
  refine ⟨?_, ?_, fun k hk => ?_, b4, a5.tr b5⟩
  · rw [b2, hs, a1]
    by_cases q : 0 ≤ wkL (goV v n) 0
    · rw [if_pos q, if_pos q, wr_id (by omega)]
    · rw [if_neg q, if_neg q]; omega
  · rw [b3, a2, hf, hs]
    by_cases z : vf v = 0
    · rw [if_pos z, if_pos z, if_neg (by omega)]
    · rw [if_neg z, if_neg z]
      by_cases q : 0 ≤ wkL (goV v n) 0
      · rw [if_pos q, if_neg (by omega)]; omega
      · rw [if_neg q, if_pos (by omega), wr_id (by omega)]; omega
  · have e : n = k := by omega
    subst e; exact b1

set_option maxHeartbeats 4000000 in
theorem m_weeksGo {g : GG} {M : Mem} {p : Int} {v : LV} (hp : p = 0 ∨ p = 210) (hR : RP M p v) (hW : WF v) (n : Nat) (hn : n ≤ 100) (hw : vw v ≤ 10000) (hq : M 50 19 = -4) : CI g tX7_weeksGo 4 [rv g 50, iv p, iv n] M (fun r M3 => r = owed (goV v n) ∧ GoM v n M M3) := by
  refine Con.of [some (rv g 50), some (iv p), some (iv n), none] (by decide +kernel) rfl (Nat.le_of_ble_eq_true rfl) ?_
  have loop : ∀ (m k : Nat) (M2 : Mem), n - k < m → k ≤ n → GoM v k M M2 → X g tX7_weeksGo (kk0 4) 20 [some (rv g 50), some (iv p), some (iv n), some (iv k)] [] (S0, R0, M2) (QI (fun r M3 => r = owed (goV v n) ∧ GoM v n M M3)) := by
    intro m
    induction m with
    | zero => intro k M2 k1 k2; omega
    | succ m ih =>
      intro k M2 k1 k2 hG
      have hgw := goV_w v k
      have h19 : M2 50 19 = -4 := (hG.2.2.2.2.2.1 19 (by omega) (by omega) (by omega)).trans hq
      refine x_iload_n 21 3 dX7_weeksGo_20 rfl rfl (by decide) rfl ?_
      refine x_iload_n 22 2 dX7_weeksGo_21 rfl rfl (by decide) rfl ?_
      refine x_icmp_ge 39 25 dX7_weeksGo_22 (by decide) rfl (by omega) (fun h22 => ?_) (fun h22 => ?_)
      · refine x_aload_n 40 0 dX7_weeksGo_39 rfl rfl (by decide) rfl ?_
        refine x_sipush 43 dX7_weeksGo_40 rfl (by decide) ?_
        refine x_vp 46 [_] (m_owedOn (show 0 ≤ (168 : Int) ∧ (168 : Int) ≤ 210 by omega) hG.2.2.2.1 (goV_WF hW k)) mX7_owedOn kX7_164 dX7_weeksGo_43 rfl rfl ⟨by decide, rfl⟩ rfl rfl (Nat.le_of_ble_eq_true rfl) (by decide) ?_
        refine x_iret dX7_weeksGo_46 rfl ⟨rfl, Nat.le_refl _⟩ (qi_i ?_)
        have hk : k = n := by omega
        subst hk
        exact ⟨rfl, hG⟩
      · refine x_aload_n 26 0 dX7_weeksGo_25 rfl rfl (by decide) rfl ?_
        refine x_sipush 29 dX7_weeksGo_26 rfl (by decide) ?_
        refine x_iconst 30 dX7_weeksGo_29 rfl ?_
        refine x_vv 33 [_, _] (m_week (show 0 ≤ (168 : Int) ∧ (168 : Int) ≤ 210 by omega) hG.2.2.2.1 (goV_WF hW k) (by omega) 0 (Or.inl rfl) h19) mX7_weekOn kX7_191 dX7_weeksGo_30 rfl rfl ⟨by decide, rfl⟩ rfl rfl (Nat.le_of_ble_eq_true rfl) (by decide) (fun M3 q3 => ?_)
        refine x_iinc 36 _ dX7_weeksGo_33 rfl (by decide) rfl rfl rfl ?_
        refine x_goto 20 dX7_weeksGo_36 (by decide) ?_
        exact ih (k + 1) _ (by omega) (by omega) (GoM_s hW (by omega) hG q3)
  refine x_aload_n 1 0 dX7_weeksGo_0 rfl rfl (by decide) rfl ?_
  refine x_iload_n 2 1 dX7_weeksGo_1 rfl rfl (by decide) rfl ?_
  refine x_sipush 5 dX7_weeksGo_2 rfl (by decide) ?_
  refine x_vv 8 [_, _] (m_copies p 168 (by omega) (by omega) (by omega)) mX7_copies kX7_195 dX7_weeksGo_5 rfl rfl ⟨by decide, rfl⟩ rfl rfl (Nat.le_of_ble_eq_true rfl) (by decide) (fun M1 q1 => ?_)
  refine x_aload_n 9 0 dX7_weeksGo_8 rfl rfl (by decide) rfl ?_
  refine x_iconst 10 dX7_weeksGo_9 rfl ?_
  refine x_putI 13 17 17 rfl dX7_weeksGo_10 rfl fX7_148 rfl rfl rfl (by omega) ?_
  refine x_aload_n 14 0 dX7_weeksGo_13 rfl rfl (by decide) rfl ?_
  refine x_iconst 15 dX7_weeksGo_14 rfl ?_
  refine x_putI 18 18 18 rfl dX7_weeksGo_15 rfl fX7_145 rfl rfl rfl (by omega) ?_
  refine x_iconst 19 dX7_weeksGo_18 rfl ?_
  refine x_istore_n 20 3 _ dX7_weeksGo_19 rfl rfl (by decide) rfl rfl ?_
  refine loop (n + 1) 0 _ (by omega) (by omega) ⟨?_, ?_, fun k hk => by omega, ((hR.copy q1).up0 _ _ (by omega)).up0 _ _ (by omega), (q1.fp.up0 _ _ (by omega)).up0 _ _ (by omega)⟩
  · rw [up2_k _ _ _ (by omega), up2_s]; rfl
  · rw [up2_s]; split <;> rfl

set_option maxHeartbeats 4000000 in
theorem m_firstLoss {g : GG} {M : Mem} {p : Int} {v : LV} (hp : p = 0 ∨ p = 210) (hR : RP M p v) (hW : WF v) (t : Int) (ht : -2147483648 ≤ t ∧ t ≤ 2147483647) (n : Nat) (hn : n ≤ 100) (hw : vw v ≤ 10000) (hq : M 50 19 = -4) : CI g tX7_firstLoss 4 [rv g 50, iv p, iv t, iv n] M (fun r M3 => r = flN v t n ∧ FP 168 M M3) := by
  refine Con.of [some (rv g 50), some (iv p), some (iv t), some (iv n), none] (by decide +kernel) rfl (Nat.le_of_ble_eq_true rfl) ?_
  have loop : ∀ (m k : Nat) (M2 : Mem), n - k < m → k ≤ n → RP M2 168 (goV v k) → FP 168 M M2 → (∀ j, j < k → wkL (goV v j) 0 ≠ t) → X g tX7_firstLoss (kk0 4) 11 [some (rv g 50), some (iv p), some (iv t), some (iv n), some (iv k)] [] (S0, R0, M2) (QI (fun r M3 => r = flN v t n ∧ FP 168 M M3)) := by
    intro m
    induction m with
    | zero => intro k M2 k1 k2; omega
    | succ m ih =>
      intro k M2 k1 k2 hR2 hF2 hno
      have hgw := goV_w v k
      have hin := wkL_in (goV_WF hW k) 0
      have hn5 := (goV_WF hW k).1
      have h19 : M2 50 19 = -4 := (hF2.2.1 19 (by omega) (by omega) (by omega)).trans hq
      refine x_iload 13 4 dX7_firstLoss_11 rfl (by decide) rfl ?_
      refine x_iload_n 14 3 dX7_firstLoss_13 rfl rfl (by decide) rfl ?_
      refine x_icmp_ge 42 17 dX7_firstLoss_14 (by decide) rfl (by omega) (fun h14 => ?_) (fun h14 => ?_)
      · refine x_bipush 44 dX7_firstLoss_42 rfl (by decide) ?_
        refine x_iret dX7_firstLoss_44 rfl ⟨rfl, Nat.le_refl _⟩ (qi_i ?_)
        have hk : k = n := by omega
        subst hk
        exact ⟨(firstN_no (fun j hj => decide_eq_false (hno j hj))).symm, hF2⟩
      · refine x_aload_n 18 0 dX7_firstLoss_17 rfl rfl (by decide) rfl ?_
        refine x_sipush 21 dX7_firstLoss_18 rfl (by decide) ?_
        refine x_iconst 22 dX7_firstLoss_21 rfl ?_
        refine x_vv 25 [_, _] (m_week (show 0 ≤ (168 : Int) ∧ (168 : Int) ≤ 210 by omega) hR2 (goV_WF hW k) (by omega) 0 (Or.inl rfl) h19) mX7_weekOn kX7_191 dX7_firstLoss_22 rfl rfl ⟨by decide, rfl⟩ rfl rfl (Nat.le_of_ble_eq_true rfl) (by decide) (fun M3 q3 => ?_)
        obtain ⟨b1, b2, b3, b4, b5⟩ := q3
        refine x_aload_n 26 0 dX7_firstLoss_25 rfl rfl (by decide) rfl ?_
        refine x_getI 29 16 16 rfl dX7_firstLoss_26 rfl fX7_142 rfl rfl (fun g26 => ?_)
        rw [b1]
        refine x_iload_n 30 2 dX7_firstLoss_29 rfl rfl (by decide) rfl ?_
        refine x_icmp_ne 36 33 dX7_firstLoss_30 (by decide) rfl (by omega) (fun h30 => ?_) (fun h30 => ?_)
        · refine x_iinc 39 _ dX7_firstLoss_36 rfl (by decide) rfl rfl rfl ?_
          refine x_goto 11 dX7_firstLoss_39 (by decide) ?_
          refine ih (k + 1) _ (by omega) (by omega) b4 (hF2.tr b5) (fun j hj => ?_)
          by_cases e : j = k
          · subst e; assumption
          · exact hno j (by omega)
        · refine x_iload 35 4 dX7_firstLoss_33 rfl (by decide) rfl ?_
          refine x_iret dX7_firstLoss_35 rfl ⟨rfl, Nat.le_refl _⟩ (qi_i ?_)
          refine ⟨?_, hF2.tr b5⟩
          exact (firstN_at (fun j hj => decide_eq_false (hno j hj)) (decide_eq_true (by assumption)) (by omega)).symm
  refine x_aload_n 1 0 dX7_firstLoss_0 rfl rfl (by decide) rfl ?_
  refine x_iload_n 2 1 dX7_firstLoss_1 rfl rfl (by decide) rfl ?_
  refine x_sipush 5 dX7_firstLoss_2 rfl (by decide) ?_
  refine x_vv 8 [_, _] (m_copies p 168 (by omega) (by omega) (by omega)) mX7_copies kX7_195 dX7_firstLoss_5 rfl rfl ⟨by decide, rfl⟩ rfl rfl (Nat.le_of_ble_eq_true rfl) (by decide) (fun M1 q1 => ?_)
  refine x_iconst 9 dX7_firstLoss_8 rfl ?_
  refine x_istore 11 4 _ dX7_firstLoss_9 rfl (by decide) rfl rfl ?_
  exact loop (n + 1) 0 _ (by omega) (by omega) (hR.copy q1) q1.fp (fun j hj => by omega)

set_option maxHeartbeats 4000000 in
theorem r_weeks {g : GG} {M : Mem} {s : ST} (hC : Mdl M s) (hO : SOK s) (n : Int) (hn : -2147483648 ≤ n ∧ n ≤ 2147483647) : CI g tX7_weeks 4 [rv g 50, iv n] M (PM M (aWeeks s n) (nWeeks s n)) := by
  refine Con.of [some (rv g 50), some (iv n), none] (by decide +kernel) rfl (Nat.le_of_ble_eq_true rfl) ?_
  obtain ⟨hV, ⟨hk0, hk1, hi0, hi1⟩, ⟨hT1, hT2⟩, ⟨hS1, hS2⟩, hZ, hN, hF, hKs, hMC⟩ := id hC
  obtain ⟨oV, oW, oI0, oI1, oT, oTb, oS, oSb, oZ⟩ := id hO
  have e1 : M 50 1 = vn (sV s) := hV.2.1
  have e40 : M 51 40 = vf (sV s) := hV.F (by omega)
  have e41 : M 51 41 = vw (sV s) := hV.W (by omega)
  have o1 := oV.1
  have o2 := oV.2.1
  have o3 := oV.2.2.1
  refine x_iload_n 1 1 dX7_weeks_0 rfl rfl (by decide) rfl ?_
  refine x_i2l 2 dX7_weeks_1 rfl (by omega) ?_
  refine x_lconst 3 dX7_weeks_2 rfl 0 rfl ?_
  refine x_ldc2 6 30 qX7_189 dX7_weeks_3 rfl ?_
  refine x_sp 9 [_, _, _] (m_in _ _ _ (by omega) (by omega) (by omega)) mX7_in kX7_53 dX7_weeks_6 rfl rfl rfl (Nat.le_of_ble_eq_true rfl) (by decide) ?_
  refine x_ifne_b 14 12 dX7_weeks_9 (by decide) rfl (fun h9 => ?_) (fun h9 => ?_)
  · refine x_aload_n 15 0 dX7_weeks_14 rfl rfl (by decide) rfl ?_
    refine x_getR 18 0 51 dX7_weeks_15 rfl fX7_7 rfl rfl rfl ?_
    refine x_bipush 20 dX7_weeks_18 rfl (by decide) ?_
    refine x_iaload 21 dX7_weeks_20 rfl rfl (by omega) (fun g20 => ?_)
    rw [e41]
    refine x_iload_n 22 1 dX7_weeks_21 rfl rfl (by decide) rfl ?_
    refine x_iadd 23 dX7_weeks_22 rfl ?_
    refine x_sipush 26 dX7_weeks_23 rfl (by decide) ?_
    refine x_icmp_le 32 29 dX7_weeks_26 (by decide) rfl (by omega) (fun h26 => ?_) (fun h26 => ?_)
    · obtain ⟨N, rfl⟩ := Int.eq_ofNat_of_zero_le (show 0 ≤ n by omega)
      have loop : ∀ (m k : Nat) (M2 : Mem), N - k < m → k ≤ N → RP M2 0 (goV (sV s) k) → FP 0 M M2 → M2 50 17 = goL (sV s) k → X g tX7_weeks (kk0 4) 39 [some (rv g 50), some (iv N), some (iv k)] [] (S0, R0, M2) (QI (PM M (aWeeks s N) (nWeeks s N))) := by
        intro m
        induction m with
        | zero => intro k M2 k1 k2; omega
        | succ m ih =>
          intro k M2 k1 k2 hR2 hF2 h17
          have hgw := goV_w (sV s) k
          have hb := goL_bd (sV s) k
          have hgs := goL_s (sV s) k
          have hin := wkL_in (goV_WF oV k) 0
          have h19 : M2 50 19 = -4 := (hF2.2.1 19 (by omega) (by omega) (by omega)).trans hKs
          refine x_iload_n 40 2 dX7_weeks_39 rfl rfl (by decide) rfl ?_
          refine x_iload_n 41 1 dX7_weeks_40 rfl rfl (by decide) rfl ?_
          refine x_icmp_ge 56 44 dX7_weeks_41 (by decide) rfl (by omega) (fun h41 => ?_) (fun h41 => ?_)
          · refine x_aload_n 57 0 dX7_weeks_56 rfl rfl (by decide) rfl ?_
            refine x_getI 60 17 17 rfl dX7_weeks_57 rfl fX7_148 rfl rfl (fun g57 => ?_)
            refine x_iret dX7_weeks_60 rfl ⟨rfl, Nat.le_refl _⟩ (qi_i ?_)
            have hk : k = N := by omega
            subst hk
            have y1 : aWeeks s k = goL (sV s) k := by (unfold aWeeks; rw [if_pos (by omega), if_neg (by omega), Int.toNat_natCast])
            have y2 : nWeeks s k = uV s (goV (sV s) k) := by (unfold nWeeks; rw [if_pos (by omega), if_neg (by omega), Int.toNat_natCast])
            rw [y1, y2]; exact PM.lg hC h17 hR2 hF2
          · refine x_aload_n 45 0 dX7_weeks_44 rfl rfl (by decide) rfl ?_
            refine x_iconst 46 dX7_weeks_45 rfl ?_
            refine x_iconst 47 dX7_weeks_46 rfl ?_
            refine x_vv 50 [_, _] (m_week (show 0 ≤ (0 : Int) ∧ (0 : Int) ≤ 210 by omega) hR2 (goV_WF oV k) (by omega) 0 (Or.inl rfl) h19) mX7_weekOn kX7_191 dX7_weeks_47 rfl rfl ⟨by decide, rfl⟩ rfl rfl (Nat.le_of_ble_eq_true rfl) (by decide) (fun M3 q3 => ?_)
            obtain ⟨b1, b2, b3, b4, b5⟩ := q3
            refine x_iinc 53 _ dX7_weeks_50 rfl (by decide) rfl rfl rfl ?_
            refine x_goto 39 dX7_weeks_53 (by decide) ?_
            refine ih (k + 1) _ (by omega) (by omega) b4 (hF2.tr b5) ?_
            rw [b2, hgs, h17]
            by_cases q : 0 ≤ wkL (goV (sV s) k) 0
            · rw [if_pos q, if_pos q, wr_id (by omega)]
            · rw [if_neg q, if_neg q]; omega
      refine x_aload_n 33 0 dX7_weeks_32 rfl rfl (by decide) rfl ?_
      refine x_iconst 34 dX7_weeks_33 rfl ?_
      refine x_putI 37 17 17 rfl dX7_weeks_34 rfl fX7_148 rfl rfl rfl (by omega) ?_
      refine x_iconst 38 dX7_weeks_37 rfl ?_
      refine x_istore_n 39 2 _ dX7_weeks_38 rfl rfl (by decide) rfl rfl ?_
      exact loop (N + 1) 0 _ (by omega) (by omega) (hV.up0 _ _ (by omega)) ((FP.rf 0 M).up0 _ _ (by omega)) (up2_s _ _ _ _)
    · refine x_bipush 31 dX7_weeks_29 rfl (by decide) ?_
      refine x_iret dX7_weeks_31 rfl ⟨rfl, Nat.le_refl _⟩ (qi_i ?_)
      have y1 : aWeeks s n = -3 := by (unfold aWeeks; rw [if_pos (by omega), if_pos (by omega)])
      have y2 : nWeeks s n = s := by (unfold nWeeks; rw [if_pos (by omega), if_pos (by omega)])
      rw [y1, y2]; exact PM.same hC rfl
  · refine x_iconst 13 dX7_weeks_12 rfl ?_
    refine x_iret dX7_weeks_13 rfl ⟨rfl, Nat.le_refl _⟩ (qi_i ?_)
    have y1 : aWeeks s n = -1 := by (unfold aWeeks; rw [if_neg (by omega)])
    have y2 : nWeeks s n = s := by (unfold nWeeks; rw [if_neg (by omega)])
    rw [y1, y2]; exact PM.same hC rfl

set_option maxHeartbeats 4000000 in
theorem r_runs {g : GG} {M : Mem} {s : ST} (hC : Mdl M s) (hO : SOK s) (n w : Int) (hn : -2147483648 ≤ n ∧ n ≤ 2147483647) (hw : -2147483648 ≤ w ∧ w ≤ 2147483647) : CI g tX7_runs 5 [rv g 50, iv n, iv w] M (PM M (aRuns s n w) s) := by
  refine Con.of [some (rv g 50), some (iv n), some (iv w), none] (by decide +kernel) rfl (Nat.le_of_ble_eq_true rfl) ?_
  obtain ⟨hV, ⟨hk0, hk1, hi0, hi1⟩, ⟨hT1, hT2⟩, ⟨hS1, hS2⟩, hZ, hN, hF, hKs, hMC⟩ := id hC
  obtain ⟨oV, oW, oI0, oI1, oT, oTb, oS, oSb, oZ⟩ := id hO
  have e1 : M 50 1 = vn (sV s) := hV.2.1
  have e40 : M 51 40 = vf (sV s) := hV.F (by omega)
  have e41 : M 51 41 = vw (sV s) := hV.W (by omega)
  have o1 := oV.1
  have o2 := oV.2.1
  have o3 := oV.2.2.1
  refine x_iload_n 1 1 dX7_runs_0 rfl rfl (by decide) rfl ?_
  refine x_i2l 2 dX7_runs_1 rfl (by omega) ?_
  refine x_lconst 3 dX7_runs_2 rfl 0 rfl ?_
  refine x_ldc2 6 60 qX7_199 dX7_runs_3 rfl ?_
  refine x_sp 9 [_, _, _] (m_in _ _ _ (by omega) (by omega) (by omega)) mX7_in kX7_53 dX7_runs_6 rfl rfl rfl (Nat.le_of_ble_eq_true rfl) (by decide) ?_
  refine x_ifeq_b 24 12 dX7_runs_9 (by decide) rfl (fun h9 => ?_) (fun h9 => ?_)
  · refine x_iconst 25 dX7_runs_24 rfl ?_
    refine x_iret dX7_runs_25 rfl ⟨rfl, Nat.le_refl _⟩ (qi_i ?_)
    refine PM.same hC ?_
    unfold aRuns; rw [if_neg (by omega)]
  · refine x_iload_n 13 2 dX7_runs_12 rfl rfl (by decide) rfl ?_
    refine x_i2l 14 dX7_runs_13 rfl (by omega) ?_
    refine x_lconst 15 dX7_runs_14 rfl 0 rfl ?_
    refine x_ldc2 18 3 qX7_174 dX7_runs_15 rfl ?_
    refine x_sp 21 [_, _, _] (m_in _ _ _ (by omega) (by omega) (by omega)) mX7_in kX7_53 dX7_runs_18 rfl rfl rfl (Nat.le_of_ble_eq_true rfl) (by decide) ?_
    refine x_ifne_b 26 24 dX7_runs_21 (by decide) rfl (fun h21 => ?_) (fun h21 => ?_)
    · obtain ⟨N, rfl⟩ := Int.eq_ofNat_of_zero_le (show 0 ≤ n by omega)
      refine x_aload_n 27 0 dX7_runs_26 rfl rfl (by decide) rfl ?_
      refine x_iconst 28 dX7_runs_27 rfl ?_
      refine x_iload_n 29 1 dX7_runs_28 rfl rfl (by decide) rfl ?_
      refine x_vi 32 [_, _] (m_weeksGo (Or.inl rfl) hV oV N (by omega) (by omega) hKs) mX7_weeksGo kX7_201 dX7_runs_29 rfl rfl ⟨by decide, rfl⟩ rfl rfl (Nat.le_of_ble_eq_true rfl) (by decide) (fun r2 M2 q2 => ?_)
      obtain ⟨rfl, g17, g18, g16, gR, gF⟩ := q2
      refine x_istore_n 33 3 _ dX7_runs_32 rfl rfl (by decide) rfl rfl ?_
      refine x_iload_n 34 2 dX7_runs_33 rfl rfl (by decide) rfl ?_
      refine x_if_ne 44 37 dX7_runs_34 (by decide) rfl (by omega) (fun h34 => ?_) (fun h34 => ?_)
      · refine x_iload_n 45 2 dX7_runs_44 rfl rfl (by decide) rfl ?_
        refine x_iconst 46 dX7_runs_45 rfl ?_
        refine x_icmp_ne 56 49 dX7_runs_46 (by decide) rfl (by omega) (fun h46 => ?_) (fun h46 => ?_)
        · refine x_iload_n 57 2 dX7_runs_56 rfl rfl (by decide) rfl ?_
          refine x_iconst 58 dX7_runs_57 rfl ?_
          refine x_icmp_ne 65 61 dX7_runs_58 (by decide) rfl (by omega) (fun h58 => ?_) (fun h58 => ?_)
          · refine x_aload_n 66 0 dX7_runs_65 rfl rfl (by decide) rfl ?_
            refine x_sipush 69 dX7_runs_66 rfl (by decide) ?_
            refine x_vp 72 [_] (m_losersOn (show 0 ≤ (168 : Int) ∧ (168 : Int) ≤ 210 by omega) gR (goV_WF oV N)) mX7_losersOn kX7_161 dX7_runs_69 rfl rfl ⟨by decide, rfl⟩ rfl rfl (Nat.le_of_ble_eq_true rfl) (by decide) ?_
            refine x_iret dX7_runs_72 rfl ⟨rfl, Nat.le_refl _⟩ (qi_i ?_)
            refine PM.scr hC ?_ (SM.of gF (by omega))
            have y : aRuns s N w = (if w = 0 then goL (sV s) N else if w = 1 then (if vf (sV s) = 0 then 0 else (N : Int) - goL (sV s) N) else if w = 2 then owed (goV (sV s) N) else (lossB (goV (sV s) N) : Int)) := by (unfold aRuns; rw [if_pos (by omega), Int.toNat_natCast])
            rw [y]
            first | (rw [if_pos (by omega)]; exact g17) | (rw [if_neg (by omega), if_pos (by omega)]; exact g18) | (rw [if_neg (by omega), if_neg (by omega), if_pos (by omega)]; done) | (rw [if_neg (by omega), if_neg (by omega), if_neg (by omega)]; done)
          · refine x_iload_n 62 3 dX7_runs_61 rfl rfl (by decide) rfl ?_
            refine x_goto 72 dX7_runs_62 (by decide) ?_
            refine x_iret dX7_runs_72 rfl ⟨rfl, Nat.le_refl _⟩ (qi_i ?_)
            refine PM.scr hC ?_ (SM.of gF (by omega))
            have y : aRuns s N w = (if w = 0 then goL (sV s) N else if w = 1 then (if vf (sV s) = 0 then 0 else (N : Int) - goL (sV s) N) else if w = 2 then owed (goV (sV s) N) else (lossB (goV (sV s) N) : Int)) := by (unfold aRuns; rw [if_pos (by omega), Int.toNat_natCast])
            rw [y]
            first | (rw [if_pos (by omega)]; exact g17) | (rw [if_neg (by omega), if_pos (by omega)]; exact g18) | (rw [if_neg (by omega), if_neg (by omega), if_pos (by omega)]; done) | (rw [if_neg (by omega), if_neg (by omega), if_neg (by omega)]; done)
        · refine x_aload_n 50 0 dX7_runs_49 rfl rfl (by decide) rfl ?_
          refine x_getI 53 18 18 rfl dX7_runs_50 rfl fX7_145 rfl rfl (fun g50 => ?_)
          refine x_goto 72 dX7_runs_53 (by decide) ?_
          refine x_iret dX7_runs_72 rfl ⟨rfl, Nat.le_refl _⟩ (qi_i ?_)
          refine PM.scr hC ?_ (SM.of gF (by omega))
          have y : aRuns s N w = (if w = 0 then goL (sV s) N else if w = 1 then (if vf (sV s) = 0 then 0 else (N : Int) - goL (sV s) N) else if w = 2 then owed (goV (sV s) N) else (lossB (goV (sV s) N) : Int)) := by (unfold aRuns; rw [if_pos (by omega), Int.toNat_natCast])
          rw [y]
          first | (rw [if_pos (by omega)]; exact g17) | (rw [if_neg (by omega), if_pos (by omega)]; exact g18) | (rw [if_neg (by omega), if_neg (by omega), if_pos (by omega)]; done) | (rw [if_neg (by omega), if_neg (by omega), if_neg (by omega)]; done)
      · refine x_aload_n 38 0 dX7_runs_37 rfl rfl (by decide) rfl ?_
        refine x_getI 41 17 17 rfl dX7_runs_38 rfl fX7_148 rfl rfl (fun g38 => ?_)
        refine x_goto 72 dX7_runs_41 (by decide) ?_
        refine x_iret dX7_runs_72 rfl ⟨rfl, Nat.le_refl _⟩ (qi_i ?_)
        refine PM.scr hC ?_ (SM.of gF (by omega))
        have y : aRuns s N w = (if w = 0 then goL (sV s) N else if w = 1 then (if vf (sV s) = 0 then 0 else (N : Int) - goL (sV s) N) else if w = 2 then owed (goV (sV s) N) else (lossB (goV (sV s) N) : Int)) := by (unfold aRuns; rw [if_pos (by omega), Int.toNat_natCast])
        rw [y]
        first | (rw [if_pos (by omega)]; exact g17) | (rw [if_neg (by omega), if_pos (by omega)]; exact g18) | (rw [if_neg (by omega), if_neg (by omega), if_pos (by omega)]; done) | (rw [if_neg (by omega), if_neg (by omega), if_neg (by omega)]; done)
    · refine x_iconst 25 dX7_runs_24 rfl ?_
      refine x_iret dX7_runs_25 rfl ⟨rfl, Nat.le_refl _⟩ (qi_i ?_)
      refine PM.same hC ?_
      unfold aRuns; rw [if_neg (by omega)]

set_option maxHeartbeats 4000000 in
theorem r_ahead {g : GG} {M : Mem} {s : ST} (hC : Mdl M s) (hO : SOK s) (t n w : Int) (ht : -2147483648 ≤ t ∧ t ≤ 2147483647) (hn : -2147483648 ≤ n ∧ n ≤ 2147483647) (hw : -2147483648 ≤ w ∧ w ≤ 2147483647) : CI g tX7_ahead 5 [rv g 50, iv t, iv n, iv w] M (PM M (aAhead s t n w) s) := by
  refine Con.of [some (rv g 50), some (iv t), some (iv n), some (iv w)] (by decide +kernel) rfl (Nat.le_of_ble_eq_true rfl) ?_
  obtain ⟨hV, ⟨hk0, hk1, hi0, hi1⟩, ⟨hT1, hT2⟩, ⟨hS1, hS2⟩, hZ, hN, hF, hKs, hMC⟩ := id hC
  obtain ⟨oV, oW, oI0, oI1, oT, oTb, oS, oSb, oZ⟩ := id hO
  have e1 : M 50 1 = vn (sV s) := hV.2.1
  have e40 : M 51 40 = vf (sV s) := hV.F (by omega)
  have e41 : M 51 41 = vw (sV s) := hV.W (by omega)
  have o1 := oV.1
  have o2 := oV.2.1
  have o3 := oV.2.2.1
  refine x_aload_n 1 0 dX7_ahead_0 rfl rfl (by decide) rfl ?_
  refine x_iload_n 2 1 dX7_ahead_1 rfl rfl (by decide) rfl ?_
  refine x_vp 5 [_] (m_isTown _ t e1 (by omega) (by omega)) mX7_isTown kX7_131 dX7_ahead_2 rfl rfl ⟨by decide, rfl⟩ rfl rfl (Nat.le_of_ble_eq_true rfl) (by decide) ?_
  refine x_ifeq_b 32 8 dX7_ahead_5 (by decide) rfl (fun h5 => ?_) (fun h5 => ?_)
  · refine x_iconst 33 dX7_ahead_32 rfl ?_
    refine x_iret dX7_ahead_33 rfl ⟨rfl, Nat.le_refl _⟩ (qi_i ?_)
    refine PM.same hC ?_
    unfold aAhead; rw [if_neg (by omega)]
  · refine x_iload_n 9 2 dX7_ahead_8 rfl rfl (by decide) rfl ?_
    refine x_i2l 10 dX7_ahead_9 rfl (by omega) ?_
    refine x_lconst 11 dX7_ahead_10 rfl 0 rfl ?_
    refine x_ldc2 14 60 qX7_199 dX7_ahead_11 rfl ?_
    refine x_sp 17 [_, _, _] (m_in _ _ _ (by omega) (by omega) (by omega)) mX7_in kX7_53 dX7_ahead_14 rfl rfl rfl (Nat.le_of_ble_eq_true rfl) (by decide) ?_
    refine x_ifeq_b 32 20 dX7_ahead_17 (by decide) rfl (fun h17 => ?_) (fun h17 => ?_)
    · refine x_iconst 33 dX7_ahead_32 rfl ?_
      refine x_iret dX7_ahead_33 rfl ⟨rfl, Nat.le_refl _⟩ (qi_i ?_)
      refine PM.same hC ?_
      unfold aAhead; rw [if_neg (by omega)]
    · refine x_iload_n 21 3 dX7_ahead_20 rfl rfl (by decide) rfl ?_
      refine x_i2l 22 dX7_ahead_21 rfl (by omega) ?_
      refine x_lconst 23 dX7_ahead_22 rfl 0 rfl ?_
      refine x_ldc2 26 2 qX7_204 dX7_ahead_23 rfl ?_
      refine x_sp 29 [_, _, _] (m_in _ _ _ (by omega) (by omega) (by omega)) mX7_in kX7_53 dX7_ahead_26 rfl rfl rfl (Nat.le_of_ble_eq_true rfl) (by decide) ?_
      refine x_ifne_b 34 32 dX7_ahead_29 (by decide) rfl (fun h29 => ?_) (fun h29 => ?_)
      · obtain ⟨N, rfl⟩ := Int.eq_ofNat_of_zero_le (show 0 ≤ n by omega)
        have hgn := goV_n (sV s) N
        refine x_aload_n 35 0 dX7_ahead_34 rfl rfl (by decide) rfl ?_
        refine x_iconst 36 dX7_ahead_35 rfl ?_
        refine x_iload_n 37 2 dX7_ahead_36 rfl rfl (by decide) rfl ?_
        refine x_vi 40 [_, _] (m_weeksGo (Or.inl rfl) hV oV N (by omega) (by omega) hKs) mX7_weeksGo kX7_201 dX7_ahead_37 rfl rfl ⟨by decide, rfl⟩ rfl rfl (Nat.le_of_ble_eq_true rfl) (by decide) (fun r2 M2 q2 => ?_)
        obtain ⟨rfl, g17, g18, g16, gR, gF⟩ := q2
        refine x_pop 41 dX7_ahead_40 rfl rfl ?_
        refine x_aload_n 42 0 dX7_ahead_41 rfl rfl (by decide) rfl ?_
        refine x_getR 45 0 51 dX7_ahead_42 rfl fX7_7 rfl rfl rfl ?_
        refine x_sipush 48 dX7_ahead_45 rfl (by decide) ?_
        refine x_iconst 49 dX7_ahead_48 rfl ?_
        refine x_iload_n 50 3 dX7_ahead_49 rfl rfl (by decide) rfl ?_
        refine x_imul 51 dX7_ahead_50 rfl ?_
        refine x_iadd 52 dX7_ahead_51 rfl ?_
        refine x_iload_n 53 1 dX7_ahead_52 rfl rfl (by decide) rfl ?_
        refine x_iadd 54 dX7_ahead_53 rfl ?_
        refine x_iaload 55 dX7_ahead_54 rfl rfl (by omega) (fun g54 => ?_)
        refine x_iret dX7_ahead_55 rfl ⟨rfl, Nat.le_refl _⟩ (qi_i ?_)
        refine PM.scr hC ?_ (SM.of gF (by omega))
        have y : aAhead s t N w = (if w = 0 then vS (goV (sV s) N) t else if w = 1 then vL (goV (sV s) N) t else vO (goV (sV s) N) t) := by (unfold aAhead; rw [if_pos (by omega), Int.toNat_natCast])
        rw [y]
        rcases (show w = 0 ∨ w = 1 ∨ w = 2 by omega) with rfl | rfl | rfl
        · exact gR.S (by omega) (by omega) (by omega)
        · exact gR.L (by omega) (by omega) (by omega)
        · exact gR.O (by omega) (by omega) (by omega)
      · refine x_iconst 33 dX7_ahead_32 rfl ?_
        refine x_iret dX7_ahead_33 rfl ⟨rfl, Nat.le_refl _⟩ (qi_i ?_)
        refine PM.same hC ?_
        unfold aAhead; rw [if_neg (by omega)]

set_option maxHeartbeats 4000000 in
theorem r_loser {g : GG} {M : Mem} {s : ST} (hC : Mdl M s) (hO : SOK s) (n : Int) (hn : -2147483648 ≤ n ∧ n ≤ 2147483647) : CI g tX7_loser 5 [rv g 50, iv n] M (PM M (aLoser s n) s) := by
  refine Con.of [some (rv g 50), some (iv n)] (by decide +kernel) rfl (Nat.le_of_ble_eq_true rfl) ?_
  obtain ⟨hV, ⟨hk0, hk1, hi0, hi1⟩, ⟨hT1, hT2⟩, ⟨hS1, hS2⟩, hZ, hN, hF, hKs, hMC⟩ := id hC
  obtain ⟨oV, oW, oI0, oI1, oT, oTb, oS, oSb, oZ⟩ := id hO
  have e1 : M 50 1 = vn (sV s) := hV.2.1
  have e40 : M 51 40 = vf (sV s) := hV.F (by omega)
  have e41 : M 51 41 = vw (sV s) := hV.W (by omega)
  have o1 := oV.1
  have o2 := oV.2.1
  have o3 := oV.2.2.1
  refine x_iload_n 1 1 dX7_loser_0 rfl rfl (by decide) rfl ?_
  refine x_i2l 2 dX7_loser_1 rfl (by omega) ?_
  refine x_lconst 3 dX7_loser_2 rfl 0 rfl ?_
  refine x_ldc2 6 60 qX7_199 dX7_loser_3 rfl ?_
  refine x_sp 9 [_, _, _] (m_in _ _ _ (by omega) (by omega) (by omega)) mX7_in kX7_53 dX7_loser_6 rfl rfl rfl (Nat.le_of_ble_eq_true rfl) (by decide) ?_
  refine x_ifne_b 14 12 dX7_loser_9 (by decide) rfl (fun h9 => ?_) (fun h9 => ?_)
  · obtain ⟨N, rfl⟩ := Int.eq_ofNat_of_zero_le (show 0 ≤ n by omega)
    refine x_aload_n 15 0 dX7_loser_14 rfl rfl (by decide) rfl ?_
    refine x_iconst 16 dX7_loser_15 rfl ?_
    refine x_iload_n 17 1 dX7_loser_16 rfl rfl (by decide) rfl ?_
    refine x_iconst 18 dX7_loser_17 rfl ?_
    refine x_iadd 19 dX7_loser_18 rfl ?_
    refine x_vi 22 [_, _] (m_weeksGo (Or.inl rfl) hV oV (N + 1) (by omega) (by omega) hKs) mX7_weeksGo kX7_201 dX7_loser_19 rfl rfl ⟨by decide, rfl⟩ rfl rfl (Nat.le_of_ble_eq_true rfl) (by decide) (fun r2 M2 q2 => ?_)
    obtain ⟨rfl, g17, g18, g16, gR, gF⟩ := q2
    refine x_pop 23 dX7_loser_22 rfl rfl ?_
    refine x_aload_n 24 0 dX7_loser_23 rfl rfl (by decide) rfl ?_
    refine x_getI 27 16 16 rfl dX7_loser_24 rfl fX7_142 rfl rfl (fun g24 => ?_)
    refine x_iret dX7_loser_27 rfl ⟨rfl, Nat.le_refl _⟩ (qi_i ?_)
    refine PM.scr hC ?_ (SM.of gF (by omega))
    have y : aLoser s N = wkL (goV (sV s) N) 0 := by (unfold aLoser; rw [if_pos (by omega), Int.toNat_natCast])
    rw [y]; exact g16 N rfl
  · refine x_iconst 13 dX7_loser_12 rfl ?_
    refine x_iret dX7_loser_13 rfl ⟨rfl, Nat.le_refl _⟩ (qi_i ?_)
    refine PM.same hC ?_
    unfold aLoser; rw [if_neg (by omega)]

set_option maxHeartbeats 4000000 in
theorem r_loses {g : GG} {M : Mem} {s : ST} (hC : Mdl M s) (hO : SOK s) (t : Int) (ht : -2147483648 ≤ t ∧ t ≤ 2147483647) : CI g tX7_loses 5 [rv g 50, iv t] M (PM M (aLoses s t) s) := by
  refine Con.of [some (rv g 50), some (iv t)] (by decide +kernel) rfl (Nat.le_of_ble_eq_true rfl) ?_
  obtain ⟨hV, ⟨hk0, hk1, hi0, hi1⟩, ⟨hT1, hT2⟩, ⟨hS1, hS2⟩, hZ, hN, hF, hKs, hMC⟩ := id hC
  obtain ⟨oV, oW, oI0, oI1, oT, oTb, oS, oSb, oZ⟩ := id hO
  have e1 : M 50 1 = vn (sV s) := hV.2.1
  have e40 : M 51 40 = vf (sV s) := hV.F (by omega)
  have e41 : M 51 41 = vw (sV s) := hV.W (by omega)
  have o1 := oV.1
  have o2 := oV.2.1
  have o3 := oV.2.2.1
  refine x_aload_n 1 0 dX7_loses_0 rfl rfl (by decide) rfl ?_
  refine x_iload_n 2 1 dX7_loses_1 rfl rfl (by decide) rfl ?_
  refine x_vp 5 [_] (m_isTown _ t e1 (by omega) (by omega)) mX7_isTown kX7_131 dX7_loses_2 rfl rfl ⟨by decide, rfl⟩ rfl rfl (Nat.le_of_ble_eq_true rfl) (by decide) ?_
  refine x_ifeq_b 19 8 dX7_loses_5 (by decide) rfl (fun h5 => ?_) (fun h5 => ?_)
  · refine x_iconst 20 dX7_loses_19 rfl ?_
    refine x_iret dX7_loses_20 rfl ⟨rfl, Nat.le_refl _⟩ (qi_i ?_)
    first
      | (refine PM.scr hC ?_ (SM.of gF (by omega))
         unfold aLoses; rw [if_pos (by omega)])
      | (refine PM.same hC ?_
         unfold aLoses; rw [if_neg (by omega)])
  · refine x_aload_n 9 0 dX7_loses_8 rfl rfl (by decide) rfl ?_
    refine x_iconst 10 dX7_loses_9 rfl ?_
    refine x_iload_n 11 1 dX7_loses_10 rfl rfl (by decide) rfl ?_
    refine x_bipush 13 dX7_loses_11 rfl (by decide) ?_
    refine x_vi 16 [_, _, _] (m_firstLoss (Or.inl rfl) hV oV t ht 61 (by omega) (by omega) hKs) mX7_firstLoss kX7_206 dX7_loses_13 rfl rfl ⟨by decide, rfl⟩ rfl rfl (Nat.le_of_ble_eq_true rfl) (by decide) (fun r2 M2 q2 => ?_)
    obtain ⟨rfl, gF⟩ := q2
    refine x_goto 20 dX7_loses_16 (by decide) ?_
    refine x_iret dX7_loses_20 rfl ⟨rfl, Nat.le_refl _⟩ (qi_i ?_)
    first
      | (refine PM.scr hC ?_ (SM.of gF (by omega))
         unfold aLoses; rw [if_pos (by omega)])
      | (refine PM.same hC ?_
         unfold aLoses; rw [if_neg (by omega)])
