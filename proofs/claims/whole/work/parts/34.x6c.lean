set_option maxHeartbeats 4000000 in
theorem c_owedAsItIs {g : GG} {M : Mem} {v : LV} (hV : Rep M 4 v) (oV : WF v) (oW : vw v ≤ 999) (n : Nat) (hn : n ≤ 60) : CI g tX6_owedAsItIs 7 [rv g 0, iv n] M (fun r M2 => r = owed (goV v n) ∧ Fr 11 M M2) := by
  refine Con.of [some (rv g 0), some (iv n)] (by decide +kernel) rfl (Nat.le_of_ble_eq_true rfl) ?_
  refine x_aload_n 1 0 dX6_owedAsItIs_0 rfl rfl (by decide) rfl ?_
  refine x_getR 4 3 11 dX6_owedAsItIs_1 rfl fX6_28 rfl rfl rfl ?_
  refine x_aload_n 5 0 dX6_owedAsItIs_4 rfl rfl (by decide) rfl ?_
  refine x_getR 8 2 4 dX6_owedAsItIs_5 rfl fX6_24 rfl rfl rfl ?_
  refine x_vv 11 [_] (c_become (o := 11) (p := 4) (Or.inr (Or.inl rfl)) (Or.inl rfl) (by decide) hV oV) mX1_become kX6_94 dX6_owedAsItIs_8 rfl rfl ⟨by decide, rfl⟩ rfl rfl (Nat.le_of_ble_eq_true rfl) (by decide) (fun Mb q2 => ?_)
  obtain ⟨hR2, hF2⟩ := q2
  refine x_aload_n 12 0 dX6_owedAsItIs_11 rfl rfl (by decide) rfl ?_
  refine x_getR 15 3 11 dX6_owedAsItIs_12 rfl fX6_28 rfl rfl rfl ?_
  refine x_iload_n 16 1 dX6_owedAsItIs_15 rfl rfl (by decide) rfl ?_
  refine x_vi 19 [_] (c_runWeeks (o := 11) (Or.inr (Or.inl rfl)) hR2 oV n (by omega) (by omega)) mX1_runWeeks kX6_166 dX6_owedAsItIs_16 rfl rfl ⟨by decide, rfl⟩ rfl rfl (Nat.le_of_ble_eq_true rfl) (by decide) (fun r3 M3 q3 => ?_)
  obtain ⟨rfl, hR3, hF3⟩ := q3
  refine x_pop 20 dX6_owedAsItIs_19 rfl rfl ?_
  refine x_aload_n 21 0 dX6_owedAsItIs_20 rfl rfl (by decide) rfl ?_
  refine x_getR 24 3 11 dX6_owedAsItIs_21 rfl fX6_28 rfl rfl rfl ?_
  refine x_vp 27 [] (c_owed (o := 11) (Or.inr (Or.inl rfl)) hR3 (goV_WF oV n)) mX1_owed kX6_117 dX6_owedAsItIs_24 rfl rfl ⟨by decide, rfl⟩ rfl rfl (Nat.le_of_ble_eq_true rfl) (by decide) ?_
  refine x_iret dX6_owedAsItIs_27 rfl ⟨rfl, Nat.le_refl _⟩ (qi_i ?_)
  exact ⟨rfl, hF2.tr hF3⟩

set_option maxHeartbeats 4000000 in
theorem c_tryStrength {g : GG} {M : Mem} {v : LV} (hV : Rep M 4 v) (oV : WF v) (oW : vw v ≤ 999) (t x : Int) (ht : 0 ≤ t ∧ t < vn v) (hx : 0 ≤ x ∧ x ≤ 20) : CV g tX6_tryStrength 1 [rv g 0, iv t, iv x] M (fun M2 => Rep M2 11 (setS v (fu (vS v) t x)) ∧ Fr 11 M M2) := by
  refine Con.of [some (rv g 0), some (iv t), some (iv x)] (by decide +kernel) rfl (Nat.le_of_ble_eq_true rfl) ?_
  have o1 := oV.1
  refine x_aload_n 1 0 dX6_tryStrength_0 rfl rfl (by decide) rfl ?_
  refine x_getR 4 3 11 dX6_tryStrength_1 rfl fX6_28 rfl rfl rfl ?_
  refine x_aload_n 5 0 dX6_tryStrength_4 rfl rfl (by decide) rfl ?_
  refine x_getR 8 2 4 dX6_tryStrength_5 rfl fX6_24 rfl rfl rfl ?_
  refine x_vv 11 [_] (c_become (o := 11) (p := 4) (Or.inr (Or.inl rfl)) (Or.inl rfl) (by decide) hV oV) mX1_become kX6_94 dX6_tryStrength_8 rfl rfl ⟨by decide, rfl⟩ rfl rfl (Nat.le_of_ble_eq_true rfl) (by decide) (fun Mb q2 => ?_)
  obtain ⟨hR2, hF2⟩ := q2
  refine x_aload_n 12 0 dX6_tryStrength_11 rfl rfl (by decide) rfl ?_
  refine x_getR 15 3 11 dX6_tryStrength_12 rfl fX6_28 rfl rfl rfl ?_
  refine x_getR 18 1 13 dX6_tryStrength_15 rfl fX6_126 rfl rfl rfl ?_
  refine x_iload_n 19 1 dX6_tryStrength_18 rfl rfl (by decide) rfl ?_
  refine x_iload_n 20 2 dX6_tryStrength_19 rfl rfl (by decide) rfl ?_
  refine x_iastore 21 dX6_tryStrength_20 rfl rfl (by omega) (by omega) ?_
  refine x_vret dX6_tryStrength_21 rfl ⟨rfl, Nat.le_refl _⟩ (qv_i ?_)
  exact ⟨Rep_S hR2 t x, hF2.up _ _ _ (by omega)⟩

set_option maxHeartbeats 4000000 in
theorem c_tryKind {g : GG} {M : Mem} {v : LV} (hV : Rep M 4 v) (oV : WF v) (oW : vw v ≤ 999) (t x : Int) (ht : 0 ≤ t ∧ t < vn v) (hx : 0 ≤ x ∧ x ≤ 20) : CV g tX6_tryKind 1 [rv g 0, iv t, iv x] M (fun M2 => Rep M2 11 (setK v (fu (vK v) t x)) ∧ Fr 11 M M2) := by
  refine Con.of [some (rv g 0), some (iv t), some (iv x)] (by decide +kernel) rfl (Nat.le_of_ble_eq_true rfl) ?_
  have o1 := oV.1
  refine x_aload_n 1 0 dX6_tryKind_0 rfl rfl (by decide) rfl ?_
  refine x_getR 4 3 11 dX6_tryKind_1 rfl fX6_28 rfl rfl rfl ?_
  refine x_aload_n 5 0 dX6_tryKind_4 rfl rfl (by decide) rfl ?_
  refine x_getR 8 2 4 dX6_tryKind_5 rfl fX6_24 rfl rfl rfl ?_
  refine x_vv 11 [_] (c_become (o := 11) (p := 4) (Or.inr (Or.inl rfl)) (Or.inl rfl) (by decide) hV oV) mX1_become kX6_94 dX6_tryKind_8 rfl rfl ⟨by decide, rfl⟩ rfl rfl (Nat.le_of_ble_eq_true rfl) (by decide) (fun Mb q2 => ?_)
  obtain ⟨hR2, hF2⟩ := q2
  refine x_aload_n 12 0 dX6_tryKind_11 rfl rfl (by decide) rfl ?_
  refine x_getR 15 3 11 dX6_tryKind_12 rfl fX6_28 rfl rfl rfl ?_
  refine x_getR 18 0 12 dX6_tryKind_15 rfl fX6_123 rfl rfl rfl ?_
  refine x_iload_n 19 1 dX6_tryKind_18 rfl rfl (by decide) rfl ?_
  refine x_iload_n 20 2 dX6_tryKind_19 rfl rfl (by decide) rfl ?_
  refine x_iastore 21 dX6_tryKind_20 rfl rfl (by omega) (by omega) ?_
  refine x_vret dX6_tryKind_21 rfl ⟨rfl, Nat.le_refl _⟩ (qv_i ?_)
  exact ⟨Rep_K hR2 t x, hF2.up _ _ _ (by omega)⟩

set_option maxHeartbeats 4000000 in
theorem p_loan {g : GG} {M : Mem} {s : ST} (hC : Cls M s) (hO : SOK s) (n w : Int) (hn : -2147483648 ≤ n ∧ n ≤ 2147483647) (hw : -2147483648 ≤ w ∧ w ≤ 2147483647) : CI g tX6_loan 8 [rv g 0, iv n, iv w] M (PC M (aLoan s n w) s) := by
  refine Con.of [some (rv g 0), some (iv n), some (iv w), none, none] (by decide +kernel) rfl (Nat.le_of_ble_eq_true rfl) ?_
  obtain ⟨hV, ⟨hk0, hk1, hi0, hi1⟩, ⟨hT1, hT2⟩, ⟨hS1, hS2⟩, hZ, hN, hF⟩ := id hC
  obtain ⟨oV, oW, oI0, oI1, oT, oTb, oS, oSb, oZ⟩ := id hO
  obtain ⟨e6, e7, e8, e4, e5⟩ := id hV
  have o1 := oV.1
  have o2 := oV.2.1
  have o3 := oV.2.2.1
  refine x_iload_n 1 1 dX6_loan_0 rfl rfl (by decide) rfl ?_
  refine x_bipush 3 dX6_loan_1 rfl (by decide) ?_
  refine x_sp 6 [_, _] (c_within _ _ (by omega) (by omega)) mX6_within kX6_70 dX6_loan_3 rfl rfl rfl (Nat.le_of_ble_eq_true rfl) (by decide) ?_
  refine x_ifeq_b 17 9 dX6_loan_6 (by decide) rfl (fun h6 => ?_) (fun h6 => ?_)
  · refine x_iconst 18 dX6_loan_17 rfl ?_
    refine x_iret dX6_loan_18 rfl ⟨rfl, Nat.le_refl _⟩ (qi_i ?_)
    refine PC.same hC ?_
    unfold aLoan; rw [if_neg (by omega)]
  · refine x_iload_n 10 2 dX6_loan_9 rfl rfl (by decide) rfl ?_
    refine x_iconst 11 dX6_loan_10 rfl ?_
    refine x_sp 14 [_, _] (c_within _ _ (by omega) (by omega)) mX6_within kX6_70 dX6_loan_11 rfl rfl rfl (Nat.le_of_ble_eq_true rfl) (by decide) ?_
    refine x_ifne_b 19 17 dX6_loan_14 (by decide) rfl (fun h14 => ?_) (fun h14 => ?_)
    · obtain ⟨N, rfl⟩ := Int.eq_ofNat_of_zero_le (show 0 ≤ n by omega)
      have inner : ∀ (a : Nat), a < (vn (sV s)).toNat → ∀ (m b : Nat) (M2 : Mem), (vn (sV s)).toNat - b < m → b ≤ (vn (sV s)).toNat → SF M M2 → BS M2 (loanIn (sV s) N a (loanOut (sV s) N a) b) → (∀ (M3 : Mem) (jk : Option Value), SF M M3 → BS M3 (loanOut (sV s) N (a + 1)) → X g tX6_loan (kk0 8) 33 [some (rv g 0), some (iv N), some (iv w), some (iv (a + 1 : Nat)), jk] [] (S0, R0, M3) (QI (PC M (aLoan s N w) s))) → X g tX6_loan (kk0 8) 47 [some (rv g 0), some (iv N), some (iv w), some (iv a), some (iv b)] [] (S0, R0, M2) (QI (PC M (aLoan s N w) s)) := by
        intro a ha m
        induction m with
        | zero => intro b M2 k1 k2; omega
        | succ m ih =>
          intro b M2 k1 k2 hSF hB hK
          have hV2 := hSF.R4 hV
          have f6 : M2 4 6 = vn (sV s) := hV2.1
          have hstep : loanIn (sV s) N a (loanOut (sV s) N a) (b + 1) = if (a : Int) ≠ (b : Int) ∧ 0 ≤ lendR (sV s) a b 1 then off (loanIn (sV s) N a (loanOut (sV s) N a) b) (10 * a + b) (owed (goV (lendV (sV s) a b 1) N)) else loanIn (sV s) N a (loanOut (sV s) N a) b := rfl
          refine x_iload 49 4 dX6_loan_47 rfl (by decide) rfl ?_
          refine x_aload_n 50 0 dX6_loan_49 rfl rfl (by decide) rfl ?_
          refine x_getR 53 2 4 dX6_loan_50 rfl fX6_24 rfl rfl rfl ?_
          refine x_getI 56 6 6 rfl dX6_loan_53 rfl fX6_101 rfl rfl (fun g53 => ?_)
          refine x_icmp_ge 126 59 dX6_loan_56 (by decide) rfl (by omega) (fun h56 => ?_) (fun h56 => ?_)
          · refine x_iinc 129 _ dX6_loan_126 rfl (by decide) rfl rfl rfl ?_
            refine x_goto 33 dX6_loan_129 (by decide) ?_
            have hb : b = (vn (sV s)).toNat := by omega
            subst hb
            exact hK _ _ hSF hB
          · refine x_aload_n 60 0 dX6_loan_59 rfl rfl (by decide) rfl ?_
            refine x_getR 63 3 11 dX6_loan_60 rfl fX6_28 rfl rfl rfl ?_
            refine x_aload_n 64 0 dX6_loan_63 rfl rfl (by decide) rfl ?_
            refine x_getR 67 2 4 dX6_loan_64 rfl fX6_24 rfl rfl rfl ?_
            refine x_vv 70 [_] (c_become (o := 11) (p := 4) (Or.inr (Or.inl rfl)) (Or.inl rfl) (by decide) hV2 oV) mX1_become kX6_94 dX6_loan_67 rfl rfl ⟨by decide, rfl⟩ rfl rfl (Nat.le_of_ble_eq_true rfl) (by decide) (fun Mb q2 => ?_)
            obtain ⟨hR2, hF2⟩ := q2
            refine x_iload_n 71 3 dX6_loan_70 rfl rfl (by decide) rfl ?_
            refine x_iload 73 4 dX6_loan_71 rfl (by decide) rfl ?_
            refine x_icmp_eq 120 76 dX6_loan_73 (by decide) rfl (by omega) (fun h73 => ?_) (fun h73 => ?_)
            · refine x_iinc 123 _ dX6_loan_120 rfl (by decide) rfl rfl rfl ?_
              refine x_goto 47 dX6_loan_123 (by decide) ?_
              first
                | (rw [if_pos ⟨by omega, by omega⟩] at hstep
                   exact ih (b + 1) _ (by omega) (by omega) hS5 (by rw [hstep]; exact hB5) hK)
                | (rw [if_neg (by omega)] at hstep
                   first
                     | exact ih (b + 1) _ (by omega) (by omega) ((hSF.tr (SF.of hF2)).tr (SF.of hF3)) (by rw [hstep]; exact (hB.fr hF2).fr hF3) hK
                     | exact ih (b + 1) _ (by omega) (by omega) (hSF.tr (SF.of hF2)) (by rw [hstep]; exact hB.fr hF2) hK)
            · refine x_aload_n 77 0 dX6_loan_76 rfl rfl (by decide) rfl ?_
              refine x_getR 80 3 11 dX6_loan_77 rfl fX6_28 rfl rfl rfl ?_
              refine x_iload_n 81 3 dX6_loan_80 rfl rfl (by decide) rfl ?_
              refine x_iload 83 4 dX6_loan_81 rfl (by decide) rfl ?_
              refine x_iconst 84 dX6_loan_83 rfl ?_
              refine x_vi 87 [_, _, _] (c_moveStrength (o := 11) (Or.inr (Or.inl rfl)) hR2 oV a b 1 (by omega) (by omega) (by omega) (by omega)) mX1_moveStrength kX6_159 dX6_loan_84 rfl rfl ⟨by decide, rfl⟩ rfl rfl (Nat.le_of_ble_eq_true rfl) (by decide) (fun r3 M3 q3 => ?_)
              obtain ⟨rfl, hR3, hF3⟩ := q3
              have lr : -3 ≤ lendR (sV s) a b 1 ∧ lendR (sV s) a b 1 ≤ 20 := by (have qa := (oV.2.2.2.1 a (by omega) (by omega)).2.1; unfold lendR; (repeat' split) <;> omega)
              refine x_if_lt 120 90 dX6_loan_87 (by decide) rfl (by omega) (fun h87 => ?_) (fun h87 => ?_)
              · refine x_iinc 123 _ dX6_loan_120 rfl (by decide) rfl rfl rfl ?_
                refine x_goto 47 dX6_loan_123 (by decide) ?_
                first
                  | (rw [if_pos ⟨by omega, by omega⟩] at hstep
                     exact ih (b + 1) _ (by omega) (by omega) hS5 (by rw [hstep]; exact hB5) hK)
                  | (rw [if_neg (by omega)] at hstep
                     first
                       | exact ih (b + 1) _ (by omega) (by omega) ((hSF.tr (SF.of hF2)).tr (SF.of hF3)) (by rw [hstep]; exact (hB.fr hF2).fr hF3) hK
                       | exact ih (b + 1) _ (by omega) (by omega) (hSF.tr (SF.of hF2)) (by rw [hstep]; exact hB.fr hF2) hK)
              · refine x_aload_n 91 0 dX6_loan_90 rfl rfl (by decide) rfl ?_
                refine x_getR 94 3 11 dX6_loan_91 rfl fX6_28 rfl rfl rfl ?_
                refine x_iload_n 95 1 dX6_loan_94 rfl rfl (by decide) rfl ?_
                refine x_vi 98 [_] (c_runWeeks (o := 11) (Or.inr (Or.inl rfl)) hR3 (lendV_WF oV (by omega) (by omega) (by omega)) N (by omega) (by rw [vw_lendV]; omega)) mX1_runWeeks kX6_166 dX6_loan_95 rfl rfl ⟨by decide, rfl⟩ rfl rfl (Nat.le_of_ble_eq_true rfl) (by decide) (fun r4 M4 q4 => ?_)
                obtain ⟨rfl, hR4, hF4⟩ := q4
                have hgw := goV_WF (lendV_WF oV (show 0 ≤ (a : Int) ∧ (a : Int) < vn (sV s) by omega) (show 0 ≤ (b : Int) ∧ (b : Int) < vn (sV s) by omega) (show (0 : Int) ≤ 1 by omega)) N
                have ob := owed_bd hgw
                refine x_pop 99 dX6_loan_98 rfl rfl ?_
                refine x_aload_n 100 0 dX6_loan_99 rfl rfl (by decide) rfl ?_
                refine x_getR 103 8 24 dX6_loan_100 rfl fX6_55 rfl rfl rfl ?_
                refine x_bipush 105 dX6_loan_103 rfl (by decide) ?_
                refine x_iload_n 106 3 dX6_loan_105 rfl rfl (by decide) rfl ?_
                refine x_imul 107 dX6_loan_106 rfl ?_
                refine x_iload 109 4 dX6_loan_107 rfl (by decide) rfl ?_
                refine x_iadd 110 dX6_loan_109 rfl ?_
                refine x_aload_n 111 0 dX6_loan_110 rfl rfl (by decide) rfl ?_
                refine x_getR 114 3 11 dX6_loan_111 rfl fX6_28 rfl rfl rfl ?_
                refine x_vp 117 [] (c_owed (o := 11) (Or.inr (Or.inl rfl)) hR4 hgw) mX1_owed kX6_117 dX6_loan_114 rfl rfl ⟨by decide, rfl⟩ rfl rfl (Nat.le_of_ble_eq_true rfl) (by decide) ?_
                refine x_vv 120 [_, _] (c_boffer _ _ (by omega) (by omega)) mX0_offer kX6_195 dX6_loan_117 rfl rfl ⟨by decide, rfl⟩ rfl rfl (Nat.le_of_ble_eq_true rfl) (by decide) (fun M5 q5 => ?_)
                have hB5 := ((((hB.fr hF2).fr hF3).fr hF4).put (10 * (a : Int) + b) (owed (goV (lendV (sV s) a b 1) N)))
                have hS5 := (((hSF.tr (SF.of hF2)).tr (SF.of hF3)).tr (SF.of hF4)).put (10 * (a : Int) + b) (owed (goV (lendV (sV s) a b 1) N))
                rw [← q5] at hB5 hS5
                refine x_iinc 123 _ dX6_loan_120 rfl (by decide) rfl rfl rfl ?_
                refine x_goto 47 dX6_loan_123 (by decide) ?_
                first
                  | (rw [if_pos ⟨by omega, by omega⟩] at hstep
                     exact ih (b + 1) _ (by omega) (by omega) hS5 (by rw [hstep]; exact hB5) hK)
                  | (rw [if_neg (by omega)] at hstep
                     first
                       | exact ih (b + 1) _ (by omega) (by omega) ((hSF.tr (SF.of hF2)).tr (SF.of hF3)) (by rw [hstep]; exact (hB.fr hF2).fr hF3) hK
                       | exact ih (b + 1) _ (by omega) (by omega) (hSF.tr (SF.of hF2)) (by rw [hstep]; exact hB.fr hF2) hK)
      have outer : ∀ (m a : Nat) (M2 : Mem) (jk : Option Value), (vn (sV s)).toNat - a < m → a ≤ (vn (sV s)).toNat → SF M M2 → BS M2 (loanOut (sV s) N a) → X g tX6_loan (kk0 8) 33 [some (rv g 0), some (iv N), some (iv w), some (iv a), jk] [] (S0, R0, M2) (QI (PC M (aLoan s N w) s)) := by
        intro m
        induction m with
        | zero => intro a M2 jk k1 k2; omega
        | succ m ih =>
          intro a M2 jk k1 k2 hSF hB
          have f6 : M2 4 6 = vn (sV s) := (hSF.R4 hV).1
          refine x_iload_n 34 3 dX6_loan_33 rfl rfl (by decide) rfl ?_
          refine x_aload_n 35 0 dX6_loan_34 rfl rfl (by decide) rfl ?_
          refine x_getR 38 2 4 dX6_loan_35 rfl fX6_24 rfl rfl rfl ?_
          refine x_getI 41 6 6 rfl dX6_loan_38 rfl fX6_101 rfl rfl (fun g38 => ?_)
          refine x_icmp_ge 132 44 dX6_loan_41 (by decide) rfl (by omega) (fun h41 => ?_) (fun h41 => ?_)
          · refine x_aload_n 133 0 dX6_loan_132 rfl rfl (by decide) rfl ?_
            refine x_getR 136 8 24 dX6_loan_133 rfl fX6_55 rfl rfl rfl ?_
            refine x_iload_n 137 2 dX6_loan_136 rfl rfl (by decide) rfl ?_
            refine x_vp 140 [_] (c_banswer w (by omega)) mX0_answer kX6_205 dX6_loan_137 rfl rfl ⟨by decide, rfl⟩ rfl rfl (Nat.le_of_ble_eq_true rfl) (by decide) ?_
            refine x_iret dX6_loan_140 rfl ⟨rfl, Nat.le_refl _⟩ (qi_i ?_)
            have ha : a = (vn (sV s)).toNat := by omega
            subst ha
            refine PC.scr hC ?_ hSF
            have y : aLoan s N w = ansB (loanOut (sV s) N (vn (sV s)).toNat) w := by (unfold aLoan; rw [if_pos (by omega), Int.toNat_natCast])
            rw [y]
            unfold ansB; rw [hB.1, hB.2]
          · refine x_iconst 45 dX6_loan_44 rfl ?_
            refine x_istore 47 4 _ dX6_loan_45 rfl (by decide) rfl rfl ?_
            exact inner a (by omega) ((vn (sV s)).toNat + 1) 0 M2 (by omega) (by omega) hSF hB (fun M3 jk h1 h2 => ih (a + 1) M3 jk (by omega) (by omega) h1 h2)
      refine x_aload_n 20 0 dX6_loan_19 rfl rfl (by decide) rfl ?_
      refine x_getR 23 8 24 dX6_loan_20 rfl fX6_55 rfl rfl rfl ?_
      refine x_aload_n 24 0 dX6_loan_23 rfl rfl (by decide) rfl ?_
      refine x_iload_n 25 1 dX6_loan_24 rfl rfl (by decide) rfl ?_
      refine x_vi 28 [_] (c_owedAsItIs hV oV oW N (by omega)) mX6_owedAsItIs kX6_202 dX6_loan_25 rfl rfl ⟨by decide, rfl⟩ rfl rfl (Nat.le_of_ble_eq_true rfl) (by decide) (fun r1 M1 q1 => ?_)
      obtain ⟨rfl, hF1⟩ := q1
      have ob := owed_bd (goV_WF oV N)
      refine x_vv 31 [_] (c_bstart _ (by omega)) mX0_start kX6_189 dX6_loan_28 rfl rfl ⟨by decide, rfl⟩ rfl rfl (Nat.le_of_ble_eq_true rfl) (by decide) (fun M0 q0 => ?_)
      subst q0
      refine x_iconst 32 dX6_loan_31 rfl ?_
      refine x_istore_n 33 3 _ dX6_loan_32 rfl rfl (by decide) rfl rfl ?_
      refine outer ((vn (sV s)).toNat + 1) 0 _ _ (by omega) (by omega) (((SF.of hF1).up _ _ _ (by unfold Scr; omega)).up _ _ _ (by unfold Scr; omega)) ⟨?_, ?_⟩
      · rw [up2_k _ _ _ (by omega), up2_s]; rfl
      · rw [up2_s]; rfl
    · refine x_iconst 18 dX6_loan_17 rfl ?_
      refine x_iret dX6_loan_18 rfl ⟨rfl, Nat.le_refl _⟩ (qi_i ?_)
      refine PC.same hC ?_
      unfold aLoan; rw [if_neg (by omega)]

set_option maxHeartbeats 4000000 in
theorem p_swap {g : GG} {M : Mem} {s : ST} (hC : Cls M s) (hO : SOK s) (n w : Int) (hn : -2147483648 ≤ n ∧ n ≤ 2147483647) (hw : -2147483648 ≤ w ∧ w ≤ 2147483647) : CI g tX6_swap 8 [rv g 0, iv n, iv w] M (PC M (aSwap s n w) s) := by
  refine Con.of [some (rv g 0), some (iv n), some (iv w), none, none] (by decide +kernel) rfl (Nat.le_of_ble_eq_true rfl) ?_
  obtain ⟨hV, ⟨hk0, hk1, hi0, hi1⟩, ⟨hT1, hT2⟩, ⟨hS1, hS2⟩, hZ, hN, hF⟩ := id hC
  obtain ⟨oV, oW, oI0, oI1, oT, oTb, oS, oSb, oZ⟩ := id hO
  obtain ⟨e6, e7, e8, e4, e5⟩ := id hV
  have o1 := oV.1
  have o2 := oV.2.1
  have o3 := oV.2.2.1
  refine x_iload_n 1 1 dX6_swap_0 rfl rfl (by decide) rfl ?_
  refine x_bipush 3 dX6_swap_1 rfl (by decide) ?_
  refine x_sp 6 [_, _] (c_within _ _ (by omega) (by omega)) mX6_within kX6_70 dX6_swap_3 rfl rfl rfl (Nat.le_of_ble_eq_true rfl) (by decide) ?_
  refine x_ifeq_b 17 9 dX6_swap_6 (by decide) rfl (fun h6 => ?_) (fun h6 => ?_)
  · refine x_iconst 18 dX6_swap_17 rfl ?_
    refine x_iret dX6_swap_18 rfl ⟨rfl, Nat.le_refl _⟩ (qi_i ?_)
    refine PC.same hC ?_
    unfold aSwap; rw [if_neg (by omega)]
  · refine x_iload_n 10 2 dX6_swap_9 rfl rfl (by decide) rfl ?_
    refine x_iconst 11 dX6_swap_10 rfl ?_
    refine x_sp 14 [_, _] (c_within _ _ (by omega) (by omega)) mX6_within kX6_70 dX6_swap_11 rfl rfl rfl (Nat.le_of_ble_eq_true rfl) (by decide) ?_
    refine x_ifne_b 19 17 dX6_swap_14 (by decide) rfl (fun h14 => ?_) (fun h14 => ?_)
    · obtain ⟨N, rfl⟩ := Int.eq_ofNat_of_zero_le (show 0 ≤ n by omega)
      have inner : ∀ (i : Nat), i < (vf (sV s)).toNat → ∀ (m c : Nat) (M2 : Mem), (vf (sV s)).toNat - (i + 1) - c < m → c ≤ (vf (sV s)).toNat - (i + 1) → SF M M2 → BS M2 (swapIn (sV s) N i (swapOut (sV s) N i) c) → (∀ (M3 : Mem) (jk : Option Value), SF M M3 → BS M3 (swapOut (sV s) N (i + 1)) → X g tX6_swap (kk0 8) 33 [some (rv g 0), some (iv N), some (iv w), some (iv (i + 1 : Nat)), jk] [] (S0, R0, M3) (QI (PC M (aSwap s N w) s))) → X g tX6_swap (kk0 8) 49 [some (rv g 0), some (iv N), some (iv w), some (iv i), some (iv (i + 1 + c : Nat))] [] (S0, R0, M2) (QI (PC M (aSwap s N w) s)) := by
        intro i hi m
        induction m with
        | zero => intro c M2 k1 k2; omega
        | succ m ih =>
          intro c M2 k1 k2 hSF hB hK
          have hV2 := hSF.R4 hV
          have f7 : M2 4 7 = vf (sV s) := hV2.2.1
          have hstep : swapIn (sV s) N i (swapOut (sV s) N i) (c + 1) = off (swapIn (sV s) N i (swapOut (sV s) N i) c) (10 * i + (i + 1 + c : Nat)) (owed (goV (swapV (sV s) i (i + 1 + c : Nat)) N)) := rfl
          refine x_iload 51 4 dX6_swap_49 rfl (by decide) rfl ?_
          refine x_aload_n 52 0 dX6_swap_51 rfl rfl (by decide) rfl ?_
          refine x_getR 55 2 4 dX6_swap_52 rfl fX6_24 rfl rfl rfl ?_
          refine x_getI 58 7 7 rfl dX6_swap_55 rfl fX6_104 rfl rfl (fun g55 => ?_)
          refine x_icmp_ge 118 61 dX6_swap_58 (by decide) rfl (by omega) (fun h58 => ?_) (fun h58 => ?_)
          · refine x_iinc 121 _ dX6_swap_118 rfl (by decide) rfl rfl rfl ?_
            refine x_goto 33 dX6_swap_121 (by decide) ?_
            have hc : c = (vf (sV s)).toNat - (i + 1) := by omega
            subst hc
            exact hK _ _ hSF hB
          · refine x_aload_n 62 0 dX6_swap_61 rfl rfl (by decide) rfl ?_
            refine x_getR 65 3 11 dX6_swap_62 rfl fX6_28 rfl rfl rfl ?_
            refine x_aload_n 66 0 dX6_swap_65 rfl rfl (by decide) rfl ?_
            refine x_getR 69 2 4 dX6_swap_66 rfl fX6_24 rfl rfl rfl ?_
            refine x_vv 72 [_] (c_become (o := 11) (p := 4) (Or.inr (Or.inl rfl)) (Or.inl rfl) (by decide) hV2 oV) mX1_become kX6_94 dX6_swap_69 rfl rfl ⟨by decide, rfl⟩ rfl rfl (Nat.le_of_ble_eq_true rfl) (by decide) (fun Mb q2 => ?_)
            obtain ⟨hR2, hF2⟩ := q2
            refine x_aload_n 73 0 dX6_swap_72 rfl rfl (by decide) rfl ?_
            refine x_getR 76 3 11 dX6_swap_73 rfl fX6_28 rfl rfl rfl ?_
            refine x_iload_n 77 3 dX6_swap_76 rfl rfl (by decide) rfl ?_
            refine x_iload 79 4 dX6_swap_77 rfl (by decide) rfl ?_
            refine x_vv 82 [_, _] (c_swapFixtures (o := 11) (Or.inr (Or.inl rfl)) hR2 (by omega) _ _ (by omega) (by omega)) mX1_swapFixtures kX6_208 dX6_swap_79 rfl rfl ⟨by decide, rfl⟩ rfl rfl (Nat.le_of_ble_eq_true rfl) (by decide) (fun M3 q3 => ?_)
            obtain ⟨hR3, hF3⟩ := q3
            have hwf : WF (swapV (sV s) i (i + 1 + c : Nat)) := swapV_WF oV (by omega) (by omega)
            refine x_aload_n 83 0 dX6_swap_82 rfl rfl (by decide) rfl ?_
            refine x_getR 86 3 11 dX6_swap_83 rfl fX6_28 rfl rfl rfl ?_
            refine x_iload_n 87 1 dX6_swap_86 rfl rfl (by decide) rfl ?_
            refine x_vi 90 [_] (c_runWeeks (o := 11) (Or.inr (Or.inl rfl)) hR3 hwf N (by omega) (by show vw (sV s) ≤ 10000; omega)) mX1_runWeeks kX6_166 dX6_swap_87 rfl rfl ⟨by decide, rfl⟩ rfl rfl (Nat.le_of_ble_eq_true rfl) (by decide) (fun r4 M4 q4 => ?_)
            obtain ⟨rfl, hR4, hF4⟩ := q4
            have ob := owed_bd (goV_WF hwf N)
            refine x_pop 91 dX6_swap_90 rfl rfl ?_
            refine x_aload_n 92 0 dX6_swap_91 rfl rfl (by decide) rfl ?_
            refine x_getR 95 8 24 dX6_swap_92 rfl fX6_55 rfl rfl rfl ?_
            refine x_bipush 97 dX6_swap_95 rfl (by decide) ?_
            refine x_iload_n 98 3 dX6_swap_97 rfl rfl (by decide) rfl ?_
            refine x_imul 99 dX6_swap_98 rfl ?_
            refine x_iload 101 4 dX6_swap_99 rfl (by decide) rfl ?_
            refine x_iadd 102 dX6_swap_101 rfl ?_
            refine x_aload_n 103 0 dX6_swap_102 rfl rfl (by decide) rfl ?_
            refine x_getR 106 3 11 dX6_swap_103 rfl fX6_28 rfl rfl rfl ?_
            refine x_vp 109 [] (c_owed (o := 11) (Or.inr (Or.inl rfl)) hR4 (goV_WF hwf N)) mX1_owed kX6_117 dX6_swap_106 rfl rfl ⟨by decide, rfl⟩ rfl rfl (Nat.le_of_ble_eq_true rfl) (by decide) ?_
            refine x_vv 112 [_, _] (c_boffer _ _ (by omega) (by omega)) mX0_offer kX6_195 dX6_swap_109 rfl rfl ⟨by decide, rfl⟩ rfl rfl (Nat.le_of_ble_eq_true rfl) (by decide) (fun M5 q5 => ?_)
            have hB5 := ((((hB.fr hF2).fr hF3).fr hF4).put (10 * (i : Int) + (i + 1 + c : Nat)) (owed (goV (swapV (sV s) i (i + 1 + c : Nat)) N)))
            have hS5 := (((hSF.tr (SF.of hF2)).tr (SF.of hF3)).tr (SF.of hF4)).put (10 * (i : Int) + (i + 1 + c : Nat)) (owed (goV (swapV (sV s) i (i + 1 + c : Nat)) N))
            rw [← q5] at hB5 hS5
            refine x_iinc 115 _ dX6_swap_112 rfl (by decide) rfl rfl rfl ?_
            refine x_goto 49 dX6_swap_115 (by decide) ?_
            exact ih (c + 1) _ (by omega) (by omega) hS5 (by rw [hstep]; exact hB5) hK
      have outer : ∀ (m i : Nat) (M2 : Mem) (jk : Option Value), (vf (sV s)).toNat - i < m → i ≤ (vf (sV s)).toNat → SF M M2 → BS M2 (swapOut (sV s) N i) → X g tX6_swap (kk0 8) 33 [some (rv g 0), some (iv N), some (iv w), some (iv i), jk] [] (S0, R0, M2) (QI (PC M (aSwap s N w) s)) := by
        intro m
        induction m with
        | zero => intro i M2 jk k1 k2; omega
        | succ m ih =>
          intro i M2 jk k1 k2 hSF hB
          have f7 : M2 4 7 = vf (sV s) := (hSF.R4 hV).2.1
          refine x_iload_n 34 3 dX6_swap_33 rfl rfl (by decide) rfl ?_
          refine x_aload_n 35 0 dX6_swap_34 rfl rfl (by decide) rfl ?_
          refine x_getR 38 2 4 dX6_swap_35 rfl fX6_24 rfl rfl rfl ?_
          refine x_getI 41 7 7 rfl dX6_swap_38 rfl fX6_104 rfl rfl (fun g38 => ?_)
          refine x_icmp_ge 124 44 dX6_swap_41 (by decide) rfl (by omega) (fun h41 => ?_) (fun h41 => ?_)
          · refine x_aload_n 125 0 dX6_swap_124 rfl rfl (by decide) rfl ?_
            refine x_getR 128 8 24 dX6_swap_125 rfl fX6_55 rfl rfl rfl ?_
            refine x_iload_n 129 2 dX6_swap_128 rfl rfl (by decide) rfl ?_
            refine x_vp 132 [_] (c_banswer w (by omega)) mX0_answer kX6_205 dX6_swap_129 rfl rfl ⟨by decide, rfl⟩ rfl rfl (Nat.le_of_ble_eq_true rfl) (by decide) ?_
            refine x_iret dX6_swap_132 rfl ⟨rfl, Nat.le_refl _⟩ (qi_i ?_)
            have hi : i = (vf (sV s)).toNat := by omega
            subst hi
            refine PC.scr hC ?_ hSF
            have y : aSwap s N w = ansB (swapOut (sV s) N (vf (sV s)).toNat) w := by (unfold aSwap; rw [if_pos (by omega), Int.toNat_natCast])
            rw [y]
            unfold ansB; rw [hB.1, hB.2]
          · refine x_iload_n 45 3 dX6_swap_44 rfl rfl (by decide) rfl ?_
            refine x_iconst 46 dX6_swap_45 rfl ?_
            refine x_iadd 47 dX6_swap_46 rfl ?_
            refine x_istore 49 4 _ dX6_swap_47 rfl (by decide) rfl rfl ?_
            exact inner i (by omega) ((vf (sV s)).toNat + 1) 0 M2 (by omega) (by omega) hSF hB (fun M3 jk h1 h2 => ih (i + 1) M3 jk (by omega) (by omega) h1 h2)
      refine x_aload_n 20 0 dX6_swap_19 rfl rfl (by decide) rfl ?_
      refine x_getR 23 8 24 dX6_swap_20 rfl fX6_55 rfl rfl rfl ?_
      refine x_aload_n 24 0 dX6_swap_23 rfl rfl (by decide) rfl ?_
      refine x_iload_n 25 1 dX6_swap_24 rfl rfl (by decide) rfl ?_
      refine x_vi 28 [_] (c_owedAsItIs hV oV oW N (by omega)) mX6_owedAsItIs kX6_202 dX6_swap_25 rfl rfl ⟨by decide, rfl⟩ rfl rfl (Nat.le_of_ble_eq_true rfl) (by decide) (fun r1 M1 q1 => ?_)
      obtain ⟨rfl, hF1⟩ := q1
      have ob := owed_bd (goV_WF oV N)
      refine x_vv 31 [_] (c_bstart _ (by omega)) mX0_start kX6_189 dX6_swap_28 rfl rfl ⟨by decide, rfl⟩ rfl rfl (Nat.le_of_ble_eq_true rfl) (by decide) (fun M0 q0 => ?_)
      subst q0
      refine x_iconst 32 dX6_swap_31 rfl ?_
      refine x_istore_n 33 3 _ dX6_swap_32 rfl rfl (by decide) rfl rfl ?_
      refine outer ((vf (sV s)).toNat + 1) 0 _ _ (by omega) (by omega) (((SF.of hF1).up _ _ _ (by unfold Scr; omega)).up _ _ _ (by unfold Scr; omega)) ⟨?_, ?_⟩
      · rw [up2_k _ _ _ (by omega), up2_s]; rfl
      · rw [up2_s]; rfl
    · refine x_iconst 18 dX6_swap_17 rfl ?_
      refine x_iret dX6_swap_18 rfl ⟨rfl, Nat.le_refl _⟩ (qi_i ?_)
      refine PC.same hC ?_
      unfold aSwap; rw [if_neg (by omega)]
