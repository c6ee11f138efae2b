def Bd (p : Int × Int) : Prop := (-4 ≤ p.1 ∧ p.1 ≤ 1000) ∧ (0 ≤ p.2 ∧ p.2 ≤ 1000000)
theorem off_b {p : Int × Int} {x y : Int} (hp : Bd p) (hx : -4 ≤ x ∧ x ≤ 1000) (hy : 0 ≤ y ∧ y ≤ 495) : Bd (off p x y) := by
  unfold off
  split
  · exact ⟨hx, hy.1, by show y ≤ 1000000; omega⟩
  · exact hp
theorem off_1 {p : Int × Int} {x y z : Int} (h : (y < p.2 ∧ z = x) ∨ (p.2 ≤ y ∧ z = p.1)) : z = (off p x y).1 := by
  unfold off
  rcases h with ⟨a, b⟩ | ⟨a, b⟩
  · rw [if_pos a]; exact b
  · rw [if_neg (by omega)]; exact b
theorem off_2 {p : Int × Int} {x y z : Int} (h : (y < p.2 ∧ z = y) ∨ (p.2 ≤ y ∧ z = p.2)) : z = (off p x y).2 := by
  unfold off
  rcases h with ⟨a, b⟩ | ⟨a, b⟩
  · rw [if_pos a]; exact b
  · rw [if_neg (by omega)]; exact b
theorem ansB_a {p : Int × Int} {w : Int} (h : p.1 = -4 ∨ w = 0) : p.1 = ansB p w := by
  unfold ansB
  by_cases e : p.1 = -4
  · rw [if_pos e]; exact e
  · rw [if_neg e, if_pos (by omega)]
theorem ansB_b {p : Int × Int} {w : Int} (h : p.1 ≠ -4) (h2 : w ≠ 0) : p.2 = ansB p w := by
  unfold ansB
  rw [if_neg h, if_neg h2]
theorem RP_Kt {M : Mem} {p : Int} {v : LV} {f : Int → Int} {t : Int} (h : RP M p (setK v f)) (hf : ∀ z, z ≠ t → f z = vK v z) (ht : 0 ≤ t ∧ t < 5) (y x : Int) (hx : x = p + t) : RP (up2 M 51 x y) p (setK v (fu (vK v) t y)) := by
  refine RP.ext (RP_K h t y x ht hx) rfl rfl rfl (fun z a b => ⟨?_, rfl, rfl, rfl⟩) (fun _ _ _ => ⟨rfl, rfl⟩)
  show fu (vK v) t y z = fu f t y z
  unfold fu
  by_cases e : z = t
  · rw [if_pos e, if_pos e]
  · rw [if_neg e, if_neg e]; exact (hf z e).symm
theorem RP_St {M : Mem} {p : Int} {v : LV} {f : Int → Int} {t : Int} (h : RP M p (setS v f)) (hf : ∀ z, z ≠ t → f z = vS v z) (ht : 0 ≤ t ∧ t < 5) (y x : Int) (hx : x = p + 5 + t) : RP (up2 M 51 x y) p (setS v (fu (vS v) t y)) := by
  refine RP.ext (RP_S h t y x ht hx) rfl rfl rfl (fun z a b => ⟨rfl, ?_, rfl, rfl⟩) (fun _ _ _ => ⟨rfl, rfl⟩)
  show fu (vS v) t y z = fu f t y z
  unfold fu
  by_cases e : z = t
  · rw [if_pos e, if_pos e]
  · rw [if_neg e, if_neg e]; exact (hf z e).symm

set_option maxHeartbeats 4000000 in
theorem m_weeksGoS {g : GG} {M : Mem} {v : LV} (hR : RP M 0 v) (hW : WF v) (n : Nat) (hn : n ≤ 100) (hw : vw v ≤ 10000) (q : Int) (hq : M 50 19 = q) : CI g tX7_weeksGo 4 [rv g 50, iv 0, iv n] M (fun r M3 => r = owed (skV v q n) ∧ FP 168 M M3) := by
  refine Con.of [some (rv g 50), some (iv 0), some (iv n), none] (by decide +kernel) rfl (Nat.le_of_ble_eq_true rfl) ?_
  have loop : ∀ (m k : Nat) (M2 : Mem), n - k < m → k ≤ n → RP M2 168 (skV v q k) → FP 168 M M2 → X g tX7_weeksGo (kk0 4) 20 [some (rv g 50), some (iv 0), some (iv n), some (iv k)] [] (S0, R0, M2) (QI (fun r M3 => r = owed (skV v q n) ∧ FP 168 M M3)) := by
    intro m
    induction m with
    | zero => intro k M2 k1 k2; omega
    | succ m ih =>
      intro k M2 k1 k2 hR2 hF2
      have hgw := skV_w v q k
      have h19 : M2 50 19 = q := (hF2.2.1 19 (by omega) (by omega) (by omega)).trans hq
      refine x_iload_n 21 3 dX7_weeksGo_20 rfl rfl (by decide) rfl ?_
      refine x_iload_n 22 2 dX7_weeksGo_21 rfl rfl (by decide) rfl ?_
      refine x_icmp_ge 39 25 dX7_weeksGo_22 (by decide) rfl (by omega) (fun h22 => ?_) (fun h22 => ?_)
      · refine x_aload_n 40 0 dX7_weeksGo_39 rfl rfl (by decide) rfl ?_
        refine x_sipush 43 dX7_weeksGo_40 rfl (by decide) ?_
        refine x_vp 46 [_] (m_owedOn (show 0 ≤ (168 : Int) ∧ (168 : Int) ≤ 210 by omega) hR2 (skV_WF hW q k)) mX7_owedOn kX7_164 dX7_weeksGo_43 rfl rfl ⟨by decide, rfl⟩ rfl rfl (Nat.le_of_ble_eq_true rfl) (by decide) ?_
        refine x_iret dX7_weeksGo_46 rfl ⟨rfl, Nat.le_refl _⟩ (qi_i ?_)
        have hk : k = n := by omega
        subst hk
        exact ⟨rfl, hF2⟩
      · refine x_aload_n 26 0 dX7_weeksGo_25 rfl rfl (by decide) rfl ?_
        refine x_sipush 29 dX7_weeksGo_26 rfl (by decide) ?_
        refine x_iconst 30 dX7_weeksGo_29 rfl ?_
        refine x_vv 33 [_, _] (m_weekOn (show 0 ≤ (168 : Int) ∧ (168 : Int) ≤ 210 by omega) hR2 (skV_WF hW q k) (by omega) 0 q (if fixN (skV v q k) = q then 1 else 0) (Or.inl rfl) h19 (fun _ => by split <;> omega)) mX7_weekOn kX7_191 dX7_weeksGo_30 rfl rfl ⟨by decide, rfl⟩ rfl rfl (Nat.le_of_ble_eq_true rfl) (by decide) (fun M3 q3 => ?_)
        obtain ⟨b1, b2, b3, b4, b5⟩ := q3
        refine x_iinc 36 _ dX7_weeksGo_33 rfl (by decide) rfl rfl rfl ?_
        refine x_goto 20 dX7_weeksGo_36 (by decide) ?_
        exact ih (k + 1) _ (by omega) (by omega) b4 (hF2.tr b5)
  refine x_aload_n 1 0 dX7_weeksGo_0 rfl rfl (by decide) rfl ?_
  refine x_iload_n 2 1 dX7_weeksGo_1 rfl rfl (by decide) rfl ?_
  refine x_sipush 5 dX7_weeksGo_2 rfl (by decide) ?_
  refine x_vv 8 [_, _] (m_copies 0 168 (by omega) (by omega) (by omega)) mX7_copies kX7_195 dX7_weeksGo_5 rfl rfl ⟨by decide, rfl⟩ rfl rfl (Nat.le_of_ble_eq_true rfl) (by decide) (fun M1 q1 => ?_)
  refine x_aload_n 9 0 dX7_weeksGo_8 rfl rfl (by decide) rfl ?_
  refine x_iconst 10 dX7_weeksGo_9 rfl ?_
  refine x_putI 13 17 17 rfl dX7_weeksGo_10 rfl fX7_148 rfl rfl rfl (by omega) ?_
  refine x_aload_n 14 0 dX7_weeksGo_13 rfl rfl (by decide) rfl ?_
  refine x_iconst 15 dX7_weeksGo_14 rfl ?_
  refine x_putI 18 18 18 rfl dX7_weeksGo_15 rfl fX7_145 rfl rfl rfl (by omega) ?_
  refine x_iconst 19 dX7_weeksGo_18 rfl ?_
  refine x_istore_n 20 3 _ dX7_weeksGo_19 rfl rfl (by decide) rfl rfl ?_
  exact loop (n + 1) 0 _ (by omega) (by omega) (((hR.copy q1).up0 _ _ (by omega)).up0 _ _ (by omega)) ((q1.fp.up0 _ _ (by omega)).up0 _ _ (by omega))

set_option maxHeartbeats 4000000 in
theorem r_loan {g : GG} {M : Mem} {s : ST} (hC : Mdl M s) (hO : SOK s) (n w : Int) (hn : -2147483648 ≤ n ∧ n ≤ 2147483647) (hw : -2147483648 ≤ w ∧ w ≤ 2147483647) : CI g tX7_loan 5 [rv g 50, iv n, iv w] M (PM M (aLoan s n w) s) := by
  refine Con.of [some (rv g 50), some (iv n), some (iv w), none, none, none, none, none] (by decide +kernel) rfl (Nat.le_of_ble_eq_true rfl) ?_
  obtain ⟨hV, ⟨hk0, hk1, hi0, hi1⟩, ⟨hT1, hT2⟩, ⟨hS1, hS2⟩, hZ, hN, hF, hKs, hMC⟩ := id hC
  obtain ⟨oV, oW, oI0, oI1, oT, oTb, oS, oSb, oZ⟩ := id hO
  have e1 : M 50 1 = vn (sV s) := hV.2.1
  have e40 : M 51 40 = vf (sV s) := hV.F (by omega)
  have e41 : M 51 41 = vw (sV s) := hV.W (by omega)
  have o1 := oV.1
  have o2 := oV.2.1
  have o3 := oV.2.2.1
  refine x_iload_n 1 1 dX7_loan_0 rfl rfl (by decide) rfl ?_
  refine x_i2l 2 dX7_loan_1 rfl (by omega) ?_
  refine x_lconst 3 dX7_loan_2 rfl 0 rfl ?_
  refine x_ldc2 6 60 qX7_199 dX7_loan_3 rfl ?_
  refine x_sp 9 [_, _, _] (m_in _ _ _ (by omega) (by omega) (by omega)) mX7_in kX7_53 dX7_loan_6 rfl rfl rfl (Nat.le_of_ble_eq_true rfl) (by decide) ?_
  refine x_ifeq_b 22 12 dX7_loan_9 (by decide) rfl (fun h9 => ?_) (fun h9 => ?_)
  · refine x_iconst 23 dX7_loan_22 rfl ?_
    refine x_iret dX7_loan_23 rfl ⟨rfl, Nat.le_refl _⟩ (qi_i ?_)
    refine PM.same hC ?_
    unfold aLoan; rw [if_neg (by omega)]
  · refine x_iload_n 13 2 dX7_loan_12 rfl rfl (by decide) rfl ?_
    refine x_i2l 14 dX7_loan_13 rfl (by omega) ?_
    refine x_lconst 15 dX7_loan_14 rfl 0 rfl ?_
    refine x_lconst 16 dX7_loan_15 rfl 1 rfl ?_
    refine x_sp 19 [_, _, _] (m_in _ _ _ (by omega) (by omega) (by omega)) mX7_in kX7_53 dX7_loan_16 rfl rfl rfl (Nat.le_of_ble_eq_true rfl) (by decide) ?_
    refine x_ifne_b 24 22 dX7_loan_19 (by decide) rfl (fun h19 => ?_) (fun h19 => ?_)
    · obtain ⟨N, rfl⟩ := Int.eq_ofNat_of_zero_le (show 0 ≤ n by omega)
      have inner : ∀ (a : Nat), a < (vn (sV s)).toNat → ∀ (m b : Nat) (M2 : Mem) (j7 : Option Value), (vn (sV s)).toNat - b < m → b ≤ (vn (sV s)).toNat → SM M M2 → Bd (loanIn (sV s) N a (loanOut (sV s) N a) b) → (∀ (M3 : Mem) (j6 j7 : Option Value), SM M M3 → Bd (loanOut (sV s) N (a + 1)) → X g tX7_loan (kk0 5) 38 [some (rv g 50), some (iv N), some (iv w), some (iv (loanOut (sV s) N (a + 1)).2), some (iv (loanOut (sV s) N (a + 1)).1), some (iv (a + 1 : Nat)), j6, j7] [] (S0, R0, M3) (QI (PM M (aLoan s N w) s))) → X g tX7_loan (kk0 5) 50 [some (rv g 50), some (iv N), some (iv w), some (iv (loanIn (sV s) N a (loanOut (sV s) N a) b).2), some (iv (loanIn (sV s) N a (loanOut (sV s) N a) b).1), some (iv a), some (iv b), j7] [] (S0, R0, M2) (QI (PM M (aLoan s N w) s)) := by
        intro a ha m
        induction m with
        | zero => intro b M2 j7 k1 k2; omega
        | succ m ih =>
          intro b M2 j7 k1 k2 hSM hB hK
          have hV2 := hV.sm hSM (by omega)
          have f1 : M2 50 1 = vn (sV s) := hV2.2.1
          have f40 : M2 51 40 = vf (sV s) := hV2.F (by omega)
          have f19 : M2 50 19 = -4 := (hSM.2.1 19 (by omega)).trans hKs
          have hstep : loanIn (sV s) N a (loanOut (sV s) N a) (b + 1) = if (a : Int) ≠ (b : Int) ∧ 0 ≤ lendR (sV s) a b 1 then off (loanIn (sV s) N a (loanOut (sV s) N a) b) (10 * a + b) (owed (goV (lendV (sV s) a b 1) N)) else loanIn (sV s) N a (loanOut (sV s) N a) b := rfl
          obtain ⟨hB1, hB2⟩ := id hB
          refine x_iload 52 6 dX7_loan_50 rfl (by decide) rfl ?_
          refine x_aload_n 53 0 dX7_loan_52 rfl rfl (by decide) rfl ?_
          refine x_getI 56 1 1 rfl dX7_loan_53 rfl fX7_125 rfl rfl (fun g53 => ?_)
          rw [f1]
          refine x_icmp_ge 139 59 dX7_loan_56 (by decide) rfl (by omega) (fun h56 => ?_) (fun h56 => ?_)
          · refine x_iinc 142 _ dX7_loan_139 rfl (by decide) rfl rfl rfl ?_
            refine x_goto 38 dX7_loan_142 (by decide) ?_
            have hb : b = (vn (sV s)).toNat := by omega
            subst hb
            exact hK _ _ _ hSM hB
          · refine x_aload_n 60 0 dX7_loan_59 rfl rfl (by decide) rfl ?_
            refine x_iconst 61 dX7_loan_60 rfl ?_
            refine x_sipush 64 dX7_loan_61 rfl (by decide) ?_
            refine x_vv 67 [_, _] (m_copies 0 210 (by omega) (by omega) (by omega)) mX7_copies kX7_195 dX7_loan_64 rfl rfl ⟨by decide, rfl⟩ rfl rfl (Nat.le_of_ble_eq_true rfl) (by decide) (fun Mc qc => ?_)
            have hRc := hV2.copy qc
            have hSc := hSM.tr (SM.of qc.fp (by omega))
            refine x_iload 69 5 dX7_loan_67 rfl (by decide) rfl ?_
            refine x_iload 71 6 dX7_loan_69 rfl (by decide) rfl ?_
            refine x_icmp_eq 133 74 dX7_loan_71 (by decide) rfl (by omega) (fun h71 => ?_) (fun h71 => ?_)
            · refine x_iinc 136 _ dX7_loan_133 rfl (by decide) rfl rfl rfl ?_
              refine x_goto 50 dX7_loan_136 (by decide) ?_
              first
                | (rw [if_pos ⟨by omega, by omega⟩] at hstep
                   have e0 := ih (b + 1) _ (some (iv (owed (goV (lendV (sV s) a b 1) N)))) (by omega) (by omega) (hSl.tr (SM.of gF (by omega))) (by rw [hstep]; exact off_b hB (by omega) (by omega)) hK
                   rw [hstep] at e0
                   exact e0)
                | (rw [if_neg (by omega)] at hstep
                   have e0 := fun Mx hx => ih (b + 1) Mx j7 (by omega) (by omega) hx (by rw [hstep]; exact hB) hK
                   rw [hstep] at e0
                   first
                     | exact e0 _ hSl
                     | exact e0 _ hSc)
            · refine x_aload_n 75 0 dX7_loan_74 rfl rfl (by decide) rfl ?_
              refine x_sipush 78 dX7_loan_75 rfl (by decide) ?_
              refine x_iload 80 5 dX7_loan_78 rfl (by decide) rfl ?_
              refine x_iload 82 6 dX7_loan_80 rfl (by decide) rfl ?_
              refine x_iconst 83 dX7_loan_82 rfl ?_
              refine x_vi 86 [_, _, _, _] (m_lendsOn (show 0 ≤ (210 : Int) ∧ (210 : Int) ≤ 210 by omega) hRc oV a b 1 (by omega) (by omega) (by omega) (by omega)) mX7_lendsOn kX7_182 dX7_loan_83 rfl rfl ⟨by decide, rfl⟩ rfl rfl (Nat.le_of_ble_eq_true rfl) (by decide) (fun r3 Ml q3 => ?_)
              obtain ⟨rfl, hRl, hFl⟩ := q3
              have lr : -3 ≤ lendR (sV s) a b 1 ∧ lendR (sV s) a b 1 ≤ 20 := by (have qa := (oV.2.2.2.1 a (by omega) (by omega)).2.1; unfold lendR; (repeat' split) <;> omega)
              have hSl := hSc.tr (SM.of hFl (by omega))
              refine x_if_lt 133 89 dX7_loan_86 (by decide) rfl (by omega) (fun h86 => ?_) (fun h86 => ?_)
              · refine x_iinc 136 _ dX7_loan_133 rfl (by decide) rfl rfl rfl ?_
                refine x_goto 50 dX7_loan_136 (by decide) ?_
                first
                  | (rw [if_pos ⟨by omega, by omega⟩] at hstep
                     have e0 := ih (b + 1) _ (some (iv (owed (goV (lendV (sV s) a b 1) N)))) (by omega) (by omega) (hSl.tr (SM.of gF (by omega))) (by rw [hstep]; exact off_b hB (by omega) (by omega)) hK
                     rw [hstep] at e0
                     exact e0)
                  | (rw [if_neg (by omega)] at hstep
                     have e0 := fun Mx hx => ih (b + 1) Mx j7 (by omega) (by omega) hx (by rw [hstep]; exact hB) hK
                     rw [hstep] at e0
                     first
                       | exact e0 _ hSl
                       | exact e0 _ hSc)
              · refine x_aload_n 90 0 dX7_loan_89 rfl rfl (by decide) rfl ?_
                refine x_sipush 93 dX7_loan_90 rfl (by decide) ?_
                refine x_iload_n 94 1 dX7_loan_93 rfl rfl (by decide) rfl ?_
                refine x_vi 97 [_, _] (m_weeksGo (Or.inr rfl) hRl (lendV_WF oV (by omega) (by omega) (by omega)) N (by omega) (by rw [vw_lendV]; omega) ((hSl.2.1 19 (by omega)).trans hKs)) mX7_weeksGo kX7_201 dX7_loan_94 rfl rfl ⟨by decide, rfl⟩ rfl rfl (Nat.le_of_ble_eq_true rfl) (by decide) (fun r4 M4 q4 => ?_)
                obtain ⟨rfl, -, -, -, -, gF⟩ := q4
                have ob := owed_bd (goV_WF (lendV_WF oV (show 0 ≤ (a : Int) ∧ (a : Int) < vn (sV s) by omega) (show 0 ≤ (b : Int) ∧ (b : Int) < vn (sV s) by omega) (show (0 : Int) ≤ 1 by omega)) N)
                refine x_istore 99 7 _ dX7_loan_97 rfl (by decide) rfl rfl ?_
                refine x_cut 118 (fun z => z = ((off (loanIn (sV s) N a (loanOut (sV s) N a) b) (10 * a + b) (owed (goV (lendV (sV s) a b 1) N)))).1) (fun tail99 => ?_) (fun z99 hz99 => ?_)
                · refine x_iload 101 7 dX7_loan_99 rfl (by decide) rfl ?_
                  refine x_iload_n 102 3 dX7_loan_101 rfl rfl (by decide) rfl ?_
                  refine x_icmp_ge 116 105 dX7_loan_102 (by decide) rfl (by omega) (fun h102 => ?_) (fun h102 => ?_)
                  · refine x_iload 118 4 dX7_loan_116 rfl (by decide) rfl ?_
                    exact tail99 _ (off_1 (by omega))
                  · refine x_bipush 107 dX7_loan_105 rfl (by decide) ?_
                    refine x_iload 109 5 dX7_loan_107 rfl (by decide) rfl ?_
                    refine x_imul 110 dX7_loan_109 rfl ?_
                    refine x_iload 112 6 dX7_loan_110 rfl (by decide) rfl ?_
                    refine x_iadd 113 dX7_loan_112 rfl ?_
                    refine x_goto 118 dX7_loan_113 (by decide) ?_
                    exact tail99 _ (off_1 (by omega))
                · subst z99
                  refine x_istore 120 4 _ dX7_loan_118 rfl (by decide) rfl rfl ?_
                  refine x_cut 132 (fun z => z = ((off (loanIn (sV s) N a (loanOut (sV s) N a) b) (10 * a + b) (owed (goV (lendV (sV s) a b 1) N)))).2) (fun tail120 => ?_) (fun z120 hz120 => ?_)
                  · refine x_iload 122 7 dX7_loan_120 rfl (by decide) rfl ?_
                    refine x_iload_n 123 3 dX7_loan_122 rfl rfl (by decide) rfl ?_
                    refine x_icmp_ge 131 126 dX7_loan_123 (by decide) rfl (by omega) (fun h123 => ?_) (fun h123 => ?_)
                    · refine x_iload_n 132 3 dX7_loan_131 rfl rfl (by decide) rfl ?_
                      exact tail120 _ (off_2 (by omega))
                    · refine x_iload 128 7 dX7_loan_126 rfl (by decide) rfl ?_
                      refine x_goto 132 dX7_loan_128 (by decide) ?_
                      exact tail120 _ (off_2 (by omega))
                  · subst z120
                    refine x_istore_n 133 3 _ dX7_loan_132 rfl rfl (by decide) rfl rfl ?_
                    refine x_iinc 136 _ dX7_loan_133 rfl (by decide) rfl rfl rfl ?_
                    refine x_goto 50 dX7_loan_136 (by decide) ?_
                    first
                      | (rw [if_pos ⟨by omega, by omega⟩] at hstep
                         have e0 := ih (b + 1) _ (some (iv (owed (goV (lendV (sV s) a b 1) N)))) (by omega) (by omega) (hSl.tr (SM.of gF (by omega))) (by rw [hstep]; exact off_b hB (by omega) (by omega)) hK
                         rw [hstep] at e0
                         exact e0)
                      | (rw [if_neg (by omega)] at hstep
                         have e0 := fun Mx hx => ih (b + 1) Mx j7 (by omega) (by omega) hx (by rw [hstep]; exact hB) hK
                         rw [hstep] at e0
                         first
                           | exact e0 _ hSl
                           | exact e0 _ hSc)
      have outer : ∀ (m a : Nat) (M2 : Mem) (j6 j7 : Option Value), (vn (sV s)).toNat - a < m → a ≤ (vn (sV s)).toNat → SM M M2 → Bd (loanOut (sV s) N a) → X g tX7_loan (kk0 5) 38 [some (rv g 50), some (iv N), some (iv w), some (iv (loanOut (sV s) N a).2), some (iv (loanOut (sV s) N a).1), some (iv a), j6, j7] [] (S0, R0, M2) (QI (PM M (aLoan s N w) s)) := by
        intro m
        induction m with
        | zero => intro a M2 j6 j7 k1 k2; omega
        | succ m ih =>
          intro a M2 j6 j7 k1 k2 hSM hB
          have hV2 := hV.sm hSM (by omega)
          have f1 : M2 50 1 = vn (sV s) := hV2.2.1
          have f40 : M2 51 40 = vf (sV s) := hV2.F (by omega)
          have f19 : M2 50 19 = -4 := (hSM.2.1 19 (by omega)).trans hKs
          obtain ⟨hB1, hB2⟩ := id hB
          refine x_iload 40 5 dX7_loan_38 rfl (by decide) rfl ?_
          refine x_aload_n 41 0 dX7_loan_40 rfl rfl (by decide) rfl ?_
          refine x_getI 44 1 1 rfl dX7_loan_41 rfl fX7_125 rfl rfl (fun g41 => ?_)
          rw [f1]
          refine x_icmp_ge 145 47 dX7_loan_44 (by decide) rfl (by omega) (fun h44 => ?_) (fun h44 => ?_)
          · refine x_iload 147 4 dX7_loan_145 rfl (by decide) rfl ?_
            refine x_bipush 149 dX7_loan_147 rfl (by decide) ?_
            refine x_icmp_eq 156 152 dX7_loan_149 (by decide) rfl (by omega) (fun h149 => ?_) (fun h149 => ?_)
            · refine x_iload 158 4 dX7_loan_156 rfl (by decide) rfl ?_
              refine x_goto 162 dX7_loan_158 (by decide) ?_
              refine x_iret dX7_loan_162 rfl ⟨rfl, Nat.le_refl _⟩ (qi_i ?_)
              have ea : a = (vn (sV s)).toNat := by omega
              subst ea
              refine PM.scr hC ?_ hSM
              have y : aLoan s N w = ansB (loanOut (sV s) N (vn (sV s)).toNat) w := by (unfold aLoan; rw [if_pos (by omega), Int.toNat_natCast])
              rw [y]
              first | exact ansB_a (by omega) | exact ansB_b (by omega) (by omega)
            · refine x_iload_n 153 2 dX7_loan_152 rfl rfl (by decide) rfl ?_
              refine x_if_ne 161 156 dX7_loan_153 (by decide) rfl (by omega) (fun h153 => ?_) (fun h153 => ?_)
              · refine x_iload_n 162 3 dX7_loan_161 rfl rfl (by decide) rfl ?_
                refine x_iret dX7_loan_162 rfl ⟨rfl, Nat.le_refl _⟩ (qi_i ?_)
                have ea : a = (vn (sV s)).toNat := by omega
                subst ea
                refine PM.scr hC ?_ hSM
                have y : aLoan s N w = ansB (loanOut (sV s) N (vn (sV s)).toNat) w := by (unfold aLoan; rw [if_pos (by omega), Int.toNat_natCast])
                rw [y]
                first | exact ansB_a (by omega) | exact ansB_b (by omega) (by omega)
              · refine x_iload 158 4 dX7_loan_156 rfl (by decide) rfl ?_
                refine x_goto 162 dX7_loan_158 (by decide) ?_
                refine x_iret dX7_loan_162 rfl ⟨rfl, Nat.le_refl _⟩ (qi_i ?_)
                have ea : a = (vn (sV s)).toNat := by omega
                subst ea
                refine PM.scr hC ?_ hSM
                have y : aLoan s N w = ansB (loanOut (sV s) N (vn (sV s)).toNat) w := by (unfold aLoan; rw [if_pos (by omega), Int.toNat_natCast])
                rw [y]
                first | exact ansB_a (by omega) | exact ansB_b (by omega) (by omega)
          · refine x_iconst 48 dX7_loan_47 rfl ?_
            refine x_istore 50 6 _ dX7_loan_48 rfl (by decide) rfl rfl ?_
            exact inner a (by omega) ((vn (sV s)).toNat + 1) 0 M2 _ (by omega) (by omega) hSM hB (fun M3 j6 j7 h1 h2 => ih (a + 1) M3 j6 j7 (by omega) (by omega) h1 h2)
      refine x_aload_n 25 0 dX7_loan_24 rfl rfl (by decide) rfl ?_
      refine x_iconst 26 dX7_loan_25 rfl ?_
      refine x_iload_n 27 1 dX7_loan_26 rfl rfl (by decide) rfl ?_
      refine x_vi 30 [_, _] (m_weeksGo (Or.inl rfl) hV oV N (by omega) (by omega) hKs) mX7_weeksGo kX7_201 dX7_loan_27 rfl rfl ⟨by decide, rfl⟩ rfl rfl (Nat.le_of_ble_eq_true rfl) (by decide) (fun r1 M1 q1 => ?_)
      obtain ⟨rfl, g17, g18, g16, gR, gF⟩ := q1
      have ob := owed_bd (goV_WF oV N)
      refine x_istore_n 31 3 _ dX7_loan_30 rfl rfl (by decide) rfl rfl ?_
      refine x_bipush 33 dX7_loan_31 rfl (by decide) ?_
      refine x_istore 35 4 _ dX7_loan_33 rfl (by decide) rfl rfl ?_
      refine x_iconst 36 dX7_loan_35 rfl ?_
      refine x_istore 38 5 _ dX7_loan_36 rfl (by decide) rfl rfl ?_
      exact outer ((vn (sV s)).toNat + 1) 0 _ _ _ (by omega) (by omega) (SM.of gF (by omega)) ⟨⟨by show (-4 : Int) ≤ -4; omega, by show (-4 : Int) ≤ 1000; omega⟩, ob.1, by show owed (goV (sV s) N) ≤ 1000000; omega⟩
    · refine x_iconst 23 dX7_loan_22 rfl ?_
      refine x_iret dX7_loan_23 rfl ⟨rfl, Nat.le_refl _⟩ (qi_i ?_)
      refine PM.same hC ?_
      unfold aLoan; rw [if_neg (by omega)]

set_option maxHeartbeats 4000000 in
theorem r_swap {g : GG} {M : Mem} {s : ST} (hC : Mdl M s) (hO : SOK s) (n w : Int) (hn : -2147483648 ≤ n ∧ n ≤ 2147483647) (hw : -2147483648 ≤ w ∧ w ≤ 2147483647) : CI g tX7_swap 5 [rv g 50, iv n, iv w] M (PM M (aSwap s n w) s) := by
  refine Con.of [some (rv g 50), some (iv n), some (iv w), none, none, none, none, none] (by decide +kernel) rfl (Nat.le_of_ble_eq_true rfl) ?_
  obtain ⟨hV, ⟨hk0, hk1, hi0, hi1⟩, ⟨hT1, hT2⟩, ⟨hS1, hS2⟩, hZ, hN, hF, hKs, hMC⟩ := id hC
  obtain ⟨oV, oW, oI0, oI1, oT, oTb, oS, oSb, oZ⟩ := id hO
  have e1 : M 50 1 = vn (sV s) := hV.2.1
  have e40 : M 51 40 = vf (sV s) := hV.F (by omega)
  have e41 : M 51 41 = vw (sV s) := hV.W (by omega)
  have o1 := oV.1
  have o2 := oV.2.1
  have o3 := oV.2.2.1
  refine x_iload_n 1 1 dX7_swap_0 rfl rfl (by decide) rfl ?_
  refine x_i2l 2 dX7_swap_1 rfl (by omega) ?_
  refine x_lconst 3 dX7_swap_2 rfl 0 rfl ?_
  refine x_ldc2 6 60 qX7_199 dX7_swap_3 rfl ?_
  refine x_sp 9 [_, _, _] (m_in _ _ _ (by omega) (by omega) (by omega)) mX7_in kX7_53 dX7_swap_6 rfl rfl rfl (Nat.le_of_ble_eq_true rfl) (by decide) ?_
  refine x_ifeq_b 22 12 dX7_swap_9 (by decide) rfl (fun h9 => ?_) (fun h9 => ?_)
  · refine x_iconst 23 dX7_swap_22 rfl ?_
    refine x_iret dX7_swap_23 rfl ⟨rfl, Nat.le_refl _⟩ (qi_i ?_)
    refine PM.same hC ?_
    unfold aSwap; rw [if_neg (by omega)]
  · refine x_iload_n 13 2 dX7_swap_12 rfl rfl (by decide) rfl ?_
    refine x_i2l 14 dX7_swap_13 rfl (by omega) ?_
    refine x_lconst 15 dX7_swap_14 rfl 0 rfl ?_
    refine x_lconst 16 dX7_swap_15 rfl 1 rfl ?_
    refine x_sp 19 [_, _, _] (m_in _ _ _ (by omega) (by omega) (by omega)) mX7_in kX7_53 dX7_swap_16 rfl rfl rfl (Nat.le_of_ble_eq_true rfl) (by decide) ?_
    refine x_ifne_b 24 22 dX7_swap_19 (by decide) rfl (fun h19 => ?_) (fun h19 => ?_)
    · obtain ⟨N, rfl⟩ := Int.eq_ofNat_of_zero_le (show 0 ≤ n by omega)
      have inner : ∀ (i : Nat), i < (vf (sV s)).toNat → ∀ (m c : Nat) (M2 : Mem) (j7 : Option Value), (vf (sV s)).toNat - (i + 1) - c < m → c ≤ (vf (sV s)).toNat - (i + 1) → SM M M2 → Bd (swapIn (sV s) N i (swapOut (sV s) N i) c) → (∀ (M3 : Mem) (j6 j7 : Option Value), SM M M3 → Bd (swapOut (sV s) N (i + 1)) → X g tX7_swap (kk0 5) 38 [some (rv g 50), some (iv N), some (iv w), some (iv (swapOut (sV s) N (i + 1)).2), some (iv (swapOut (sV s) N (i + 1)).1), some (iv (i + 1 : Nat)), j6, j7] [] (S0, R0, M3) (QI (PM M (aSwap s N w) s))) → X g tX7_swap (kk0 5) 56 [some (rv g 50), some (iv N), some (iv w), some (iv (swapIn (sV s) N i (swapOut (sV s) N i) c).2), some (iv (swapIn (sV s) N i (swapOut (sV s) N i) c).1), some (iv i), some (iv (i + 1 + c : Nat)), j7] [] (S0, R0, M2) (QI (PM M (aSwap s N w) s)) := by
        intro i hi m
        induction m with
        | zero => intro c M2 j7 k1 k2; omega
        | succ m ih =>
          intro c M2 j7 k1 k2 hSM hB hK
          have hV2 := hV.sm hSM (by omega)
          have f1 : M2 50 1 = vn (sV s) := hV2.2.1
          have f40 : M2 51 40 = vf (sV s) := hV2.F (by omega)
          have f19 : M2 50 19 = -4 := (hSM.2.1 19 (by omega)).trans hKs
          have hstep : swapIn (sV s) N i (swapOut (sV s) N i) (c + 1) = off (swapIn (sV s) N i (swapOut (sV s) N i) c) (10 * i + (i + 1 + c : Nat)) (owed (goV (swapV (sV s) i (i + 1 + c : Nat)) N)) := rfl
          obtain ⟨hB1, hB2⟩ := id hB
          refine x_iload 58 6 dX7_swap_56 rfl (by decide) rfl ?_
          refine x_aload_n 59 0 dX7_swap_58 rfl rfl (by decide) rfl ?_
          refine x_getR 62 0 51 dX7_swap_59 rfl fX7_7 rfl rfl rfl ?_
          refine x_bipush 64 dX7_swap_62 rfl (by decide) ?_
          refine x_iaload 65 dX7_swap_64 rfl rfl (by omega) (fun g64 => ?_)
          rw [f40]
          refine x_icmp_ge 210 68 dX7_swap_65 (by decide) rfl (by omega) (fun h65 => ?_) (fun h65 => ?_)
          · refine x_iinc 213 _ dX7_swap_210 rfl (by decide) rfl rfl rfl ?_
            refine x_goto 38 dX7_swap_213 (by decide) ?_
            have hc : c = (vf (sV s)).toNat - (i + 1) := by omega
            subst hc
            exact hK _ _ _ hSM hB
          · refine x_aload_n 69 0 dX7_swap_68 rfl rfl (by decide) rfl ?_
            refine x_iconst 70 dX7_swap_69 rfl ?_
            refine x_sipush 73 dX7_swap_70 rfl (by decide) ?_
            refine x_vv 76 [_, _] (m_copies 0 210 (by omega) (by omega) (by omega)) mX7_copies kX7_195 dX7_swap_73 rfl rfl ⟨by decide, rfl⟩ rfl rfl (Nat.le_of_ble_eq_true rfl) (by decide) (fun Mc qc => ?_)
            have hRc := hV2.copy qc
            have hSc := hSM.tr (SM.of qc.fp (by omega))
            have hVc := hV.sm hSc (by omega)
            have eAj : Mc 51 (20 + ((i + 1 + c : Nat) : Int)) = vA (sV s) ((i + 1 + c : Nat) : Int) := hVc.A (by omega) (by omega) (by omega)
            have eBj : Mc 51 (30 + ((i + 1 + c : Nat) : Int)) = vB (sV s) ((i + 1 + c : Nat) : Int) := hVc.B (by omega) (by omega) (by omega)
            have eAi : Mc 51 (20 + (i : Int)) = vA (sV s) i := hVc.A (by omega) (by omega) (by omega)
            have eBi : Mc 51 (30 + (i : Int)) = vB (sV s) i := hVc.B (by omega) (by omega) (by omega)
            have fi := oV.2.2.2.2 (i : Int) (by omega) (by omega)
            have fj := oV.2.2.2.2 ((i + 1 + c : Nat) : Int) (by omega) (by omega)
            have hwf : WF (swapV (sV s) i ((i + 1 + c : Nat) : Int)) := swapV_WF oV (by omega) (by omega)
            refine x_aload_n 77 0 dX7_swap_76 rfl rfl (by decide) rfl ?_
            refine x_getR 80 0 51 dX7_swap_77 rfl fX7_7 rfl rfl rfl ?_
            refine x_sipush 83 dX7_swap_80 rfl (by decide) ?_
            refine x_iload 85 5 dX7_swap_83 rfl (by decide) rfl ?_
            refine x_iadd 86 dX7_swap_85 rfl ?_
            refine x_aload_n 87 0 dX7_swap_86 rfl rfl (by decide) rfl ?_
            refine x_getR 90 0 51 dX7_swap_87 rfl fX7_7 rfl rfl rfl ?_
            refine x_bipush 92 dX7_swap_90 rfl (by decide) ?_
            refine x_iload 94 6 dX7_swap_92 rfl (by decide) rfl ?_
            refine x_iadd 95 dX7_swap_94 rfl ?_
            refine x_iaload 96 dX7_swap_95 rfl rfl (by omega) (fun g95 => ?_)
            rw [eAj]
            refine x_iastore 97 dX7_swap_96 rfl rfl (by omega) (by omega) ?_
            refine x_aload_n 98 0 dX7_swap_97 rfl rfl (by decide) rfl ?_
            refine x_getR 101 0 51 dX7_swap_98 rfl fX7_7 rfl rfl rfl ?_
            refine x_sipush 104 dX7_swap_101 rfl (by decide) ?_
            refine x_iload 106 5 dX7_swap_104 rfl (by decide) rfl ?_
            refine x_iadd 107 dX7_swap_106 rfl ?_
            refine x_aload_n 108 0 dX7_swap_107 rfl rfl (by decide) rfl ?_
            refine x_getR 111 0 51 dX7_swap_108 rfl fX7_7 rfl rfl rfl ?_
            refine x_bipush 113 dX7_swap_111 rfl (by decide) ?_
            refine x_iload 115 6 dX7_swap_113 rfl (by decide) rfl ?_
            refine x_iadd 116 dX7_swap_115 rfl ?_
            refine x_iaload 117 dX7_swap_116 rfl rfl (by omega) (fun g116 => ?_)
            rw [up2_k _ _ _ (by omega), eBj]
            refine x_iastore 118 dX7_swap_117 rfl rfl (by omega) (by omega) ?_
            refine x_aload_n 119 0 dX7_swap_118 rfl rfl (by decide) rfl ?_
            refine x_getR 122 0 51 dX7_swap_119 rfl fX7_7 rfl rfl rfl ?_
            refine x_sipush 125 dX7_swap_122 rfl (by decide) ?_
            refine x_iload 127 6 dX7_swap_125 rfl (by decide) rfl ?_
            refine x_iadd 128 dX7_swap_127 rfl ?_
            refine x_aload_n 129 0 dX7_swap_128 rfl rfl (by decide) rfl ?_
            refine x_getR 132 0 51 dX7_swap_129 rfl fX7_7 rfl rfl rfl ?_
            refine x_bipush 134 dX7_swap_132 rfl (by decide) ?_
            refine x_iload 136 5 dX7_swap_134 rfl (by decide) rfl ?_
            refine x_iadd 137 dX7_swap_136 rfl ?_
            refine x_iaload 138 dX7_swap_137 rfl rfl (by omega) (fun g137 => ?_)
            rw [up2_k _ _ _ (by omega), up2_k _ _ _ (by omega), eAi]
            refine x_iastore 139 dX7_swap_138 rfl rfl (by omega) (by omega) ?_
            refine x_aload_n 140 0 dX7_swap_139 rfl rfl (by decide) rfl ?_
            refine x_getR 143 0 51 dX7_swap_140 rfl fX7_7 rfl rfl rfl ?_
            refine x_sipush 146 dX7_swap_143 rfl (by decide) ?_
            refine x_iload 148 6 dX7_swap_146 rfl (by decide) rfl ?_
            refine x_iadd 149 dX7_swap_148 rfl ?_
            refine x_aload_n 150 0 dX7_swap_149 rfl rfl (by decide) rfl ?_
            refine x_getR 153 0 51 dX7_swap_150 rfl fX7_7 rfl rfl rfl ?_
            refine x_bipush 155 dX7_swap_153 rfl (by decide) ?_
            refine x_iload 157 5 dX7_swap_155 rfl (by decide) rfl ?_
            refine x_iadd 158 dX7_swap_157 rfl ?_
            refine x_iaload 159 dX7_swap_158 rfl rfl (by omega) (fun g158 => ?_)
            rw [up2_k _ _ _ (by omega), up2_k _ _ _ (by omega), up2_k _ _ _ (by omega), eBi]
            refine x_iastore 160 dX7_swap_159 rfl rfl (by omega) (by omega) ?_
            refine x_mem (fun Mw => RP Mw 210 (swapV (sV s) i ((i + 1 + c : Nat) : Int)) ∧ SM M Mw) ⟨RP_B (RP_A (RP_B (RP_A hRc i _ _ (by omega) (by omega)) i _ _ (by omega) (by omega)) ((i + 1 + c : Nat) : Int) _ _ (by omega) (by omega)) ((i + 1 + c : Nat) : Int) _ _ (by omega) (by omega), (((hSc.up1 _ _ (by omega)).up1 _ _ (by omega)).up1 _ _ (by omega)).up1 _ _ (by omega)⟩ (fun Mw hMw => ?_)
            obtain ⟨hRw, hSw⟩ := hMw
            refine x_aload_n 161 0 dX7_swap_160 rfl rfl (by decide) rfl ?_
            refine x_sipush 164 dX7_swap_161 rfl (by decide) ?_
            refine x_iload_n 165 1 dX7_swap_164 rfl rfl (by decide) rfl ?_
            refine x_vi 168 [_, _] (m_weeksGo (Or.inr rfl) hRw hwf N (by omega) (by show vw (sV s) ≤ 10000; omega) ((hSw.2.1 19 (by omega)).trans hKs)) mX7_weeksGo kX7_201 dX7_swap_165 rfl rfl ⟨by decide, rfl⟩ rfl rfl (Nat.le_of_ble_eq_true rfl) (by decide) (fun r4 M4 q4 => ?_)
            obtain ⟨rfl, -, -, -, -, gF⟩ := q4
            have ob := owed_bd (goV_WF hwf N)
            refine x_istore 170 7 _ dX7_swap_168 rfl (by decide) rfl rfl ?_
            refine x_cut 189 (fun z => z = ((off (swapIn (sV s) N i (swapOut (sV s) N i) c) (10 * i + (i + 1 + c : Nat)) (owed (goV (swapV (sV s) i (i + 1 + c : Nat)) N)))).1) (fun tail170 => ?_) (fun z170 hz170 => ?_)
            · refine x_iload 172 7 dX7_swap_170 rfl (by decide) rfl ?_
              refine x_iload_n 173 3 dX7_swap_172 rfl rfl (by decide) rfl ?_
              refine x_icmp_ge 187 176 dX7_swap_173 (by decide) rfl (by omega) (fun h173 => ?_) (fun h173 => ?_)
              · refine x_iload 189 4 dX7_swap_187 rfl (by decide) rfl ?_
                exact tail170 _ (off_1 (by omega))
              · refine x_bipush 178 dX7_swap_176 rfl (by decide) ?_
                refine x_iload 180 5 dX7_swap_178 rfl (by decide) rfl ?_
                refine x_imul 181 dX7_swap_180 rfl ?_
                refine x_iload 183 6 dX7_swap_181 rfl (by decide) rfl ?_
                refine x_iadd 184 dX7_swap_183 rfl ?_
                refine x_goto 189 dX7_swap_184 (by decide) ?_
                exact tail170 _ (off_1 (by omega))
            · subst z170
              refine x_istore 191 4 _ dX7_swap_189 rfl (by decide) rfl rfl ?_
              refine x_cut 203 (fun z => z = ((off (swapIn (sV s) N i (swapOut (sV s) N i) c) (10 * i + (i + 1 + c : Nat)) (owed (goV (swapV (sV s) i (i + 1 + c : Nat)) N)))).2) (fun tail191 => ?_) (fun z191 hz191 => ?_)
              · refine x_iload 193 7 dX7_swap_191 rfl (by decide) rfl ?_
                refine x_iload_n 194 3 dX7_swap_193 rfl rfl (by decide) rfl ?_
                refine x_icmp_ge 202 197 dX7_swap_194 (by decide) rfl (by omega) (fun h194 => ?_) (fun h194 => ?_)
                · refine x_iload_n 203 3 dX7_swap_202 rfl rfl (by decide) rfl ?_
                  exact tail191 _ (off_2 (by omega))
                · refine x_iload 199 7 dX7_swap_197 rfl (by decide) rfl ?_
                  refine x_goto 203 dX7_swap_199 (by decide) ?_
                  exact tail191 _ (off_2 (by omega))
              · subst z191
                refine x_istore_n 204 3 _ dX7_swap_203 rfl rfl (by decide) rfl rfl ?_
                refine x_iinc 207 _ dX7_swap_204 rfl (by decide) rfl rfl rfl ?_
                refine x_goto 56 dX7_swap_207 (by decide) ?_
                have e0 := ih (c + 1) _ (some (iv (owed (goV (swapV (sV s) i (i + 1 + c : Nat)) N)))) (by omega) (by omega) (hSw.tr (SM.of gF (by omega))) (by rw [hstep]; exact off_b hB (by omega) (by omega)) hK
                rw [hstep] at e0
                exact e0
      have outer : ∀ (m i : Nat) (M2 : Mem) (j6 j7 : Option Value), (vf (sV s)).toNat - i < m → i ≤ (vf (sV s)).toNat → SM M M2 → Bd (swapOut (sV s) N i) → X g tX7_swap (kk0 5) 38 [some (rv g 50), some (iv N), some (iv w), some (iv (swapOut (sV s) N i).2), some (iv (swapOut (sV s) N i).1), some (iv i), j6, j7] [] (S0, R0, M2) (QI (PM M (aSwap s N w) s)) := by
        intro m
        induction m with
        | zero => intro i M2 j6 j7 k1 k2; omega
        | succ m ih =>
          intro i M2 j6 j7 k1 k2 hSM hB
          have hV2 := hV.sm hSM (by omega)
          have f1 : M2 50 1 = vn (sV s) := hV2.2.1
          have f40 : M2 51 40 = vf (sV s) := hV2.F (by omega)
          have f19 : M2 50 19 = -4 := (hSM.2.1 19 (by omega)).trans hKs
          obtain ⟨hB1, hB2⟩ := id hB
          refine x_iload 40 5 dX7_swap_38 rfl (by decide) rfl ?_
          refine x_aload_n 41 0 dX7_swap_40 rfl rfl (by decide) rfl ?_
          refine x_getR 44 0 51 dX7_swap_41 rfl fX7_7 rfl rfl rfl ?_
          refine x_bipush 46 dX7_swap_44 rfl (by decide) ?_
          refine x_iaload 47 dX7_swap_46 rfl rfl (by omega) (fun g46 => ?_)
          rw [f40]
          refine x_icmp_ge 216 50 dX7_swap_47 (by decide) rfl (by omega) (fun h47 => ?_) (fun h47 => ?_)
          · refine x_iload 218 4 dX7_swap_216 rfl (by decide) rfl ?_
            refine x_bipush 220 dX7_swap_218 rfl (by decide) ?_
            refine x_icmp_eq 227 223 dX7_swap_220 (by decide) rfl (by omega) (fun h220 => ?_) (fun h220 => ?_)
            · refine x_iload 229 4 dX7_swap_227 rfl (by decide) rfl ?_
              refine x_goto 233 dX7_swap_229 (by decide) ?_
              refine x_iret dX7_swap_233 rfl ⟨rfl, Nat.le_refl _⟩ (qi_i ?_)
              have ei : i = (vf (sV s)).toNat := by omega
              subst ei
              refine PM.scr hC ?_ hSM
              have y : aSwap s N w = ansB (swapOut (sV s) N (vf (sV s)).toNat) w := by (unfold aSwap; rw [if_pos (by omega), Int.toNat_natCast])
              rw [y]
              first | exact ansB_a (by omega) | exact ansB_b (by omega) (by omega)
            · refine x_iload_n 224 2 dX7_swap_223 rfl rfl (by decide) rfl ?_
              refine x_if_ne 232 227 dX7_swap_224 (by decide) rfl (by omega) (fun h224 => ?_) (fun h224 => ?_)
              · refine x_iload_n 233 3 dX7_swap_232 rfl rfl (by decide) rfl ?_
                refine x_iret dX7_swap_233 rfl ⟨rfl, Nat.le_refl _⟩ (qi_i ?_)
                have ei : i = (vf (sV s)).toNat := by omega
                subst ei
                refine PM.scr hC ?_ hSM
                have y : aSwap s N w = ansB (swapOut (sV s) N (vf (sV s)).toNat) w := by (unfold aSwap; rw [if_pos (by omega), Int.toNat_natCast])
                rw [y]
                first | exact ansB_a (by omega) | exact ansB_b (by omega) (by omega)
              · refine x_iload 229 4 dX7_swap_227 rfl (by decide) rfl ?_
                refine x_goto 233 dX7_swap_229 (by decide) ?_
                refine x_iret dX7_swap_233 rfl ⟨rfl, Nat.le_refl _⟩ (qi_i ?_)
                have ei : i = (vf (sV s)).toNat := by omega
                subst ei
                refine PM.scr hC ?_ hSM
                have y : aSwap s N w = ansB (swapOut (sV s) N (vf (sV s)).toNat) w := by (unfold aSwap; rw [if_pos (by omega), Int.toNat_natCast])
                rw [y]
                first | exact ansB_a (by omega) | exact ansB_b (by omega) (by omega)
          · refine x_iload 52 5 dX7_swap_50 rfl (by decide) rfl ?_
            refine x_iconst 53 dX7_swap_52 rfl ?_
            refine x_iadd 54 dX7_swap_53 rfl ?_
            refine x_istore 56 6 _ dX7_swap_54 rfl (by decide) rfl rfl ?_
            exact inner i (by omega) ((vf (sV s)).toNat + 1) 0 M2 _ (by omega) (by omega) hSM hB (fun M3 j6 j7 h1 h2 => ih (i + 1) M3 j6 j7 (by omega) (by omega) h1 h2)
      refine x_aload_n 25 0 dX7_swap_24 rfl rfl (by decide) rfl ?_
      refine x_iconst 26 dX7_swap_25 rfl ?_
      refine x_iload_n 27 1 dX7_swap_26 rfl rfl (by decide) rfl ?_
      refine x_vi 30 [_, _] (m_weeksGo (Or.inl rfl) hV oV N (by omega) (by omega) hKs) mX7_weeksGo kX7_201 dX7_swap_27 rfl rfl ⟨by decide, rfl⟩ rfl rfl (Nat.le_of_ble_eq_true rfl) (by decide) (fun r1 M1 q1 => ?_)
      obtain ⟨rfl, g17, g18, g16, gR, gF⟩ := q1
      have ob := owed_bd (goV_WF oV N)
      refine x_istore_n 31 3 _ dX7_swap_30 rfl rfl (by decide) rfl rfl ?_
      refine x_bipush 33 dX7_swap_31 rfl (by decide) ?_
      refine x_istore 35 4 _ dX7_swap_33 rfl (by decide) rfl rfl ?_
      refine x_iconst 36 dX7_swap_35 rfl ?_
      refine x_istore 38 5 _ dX7_swap_36 rfl (by decide) rfl rfl ?_
      exact outer ((vf (sV s)).toNat + 1) 0 _ _ _ (by omega) (by omega) (SM.of gF (by omega)) ⟨⟨by show (-4 : Int) ≤ -4; omega, by show (-4 : Int) ≤ 1000; omega⟩, ob.1, by show owed (goV (sV s) N) ≤ 1000000; omega⟩
    · refine x_iconst 23 dX7_swap_22 rfl ?_
      refine x_iret dX7_swap_23 rfl ⟨rfl, Nat.le_refl _⟩ (qi_i ?_)
      refine PM.same hC ?_
      unfold aSwap; rw [if_neg (by omega)]

set_option maxHeartbeats 4000000 in
theorem r_skip {g : GG} {M : Mem} {s : ST} (hC : Mdl M s) (hO : SOK s) (n w : Int) (hn : -2147483648 ≤ n ∧ n ≤ 2147483647) (hw : -2147483648 ≤ w ∧ w ≤ 2147483647) : CI g tX7_skip 5 [rv g 50, iv n, iv w] M (PM M (aSkip s n w) s) := by
  refine Con.of [some (rv g 50), some (iv n), some (iv w), none, none, none, none] (by decide +kernel) rfl (Nat.le_of_ble_eq_true rfl) ?_
  obtain ⟨hV, ⟨hk0, hk1, hi0, hi1⟩, ⟨hT1, hT2⟩, ⟨hS1, hS2⟩, hZ, hN, hF, hKs, hMC⟩ := id hC
  obtain ⟨oV, oW, oI0, oI1, oT, oTb, oS, oSb, oZ⟩ := id hO
  have e1 : M 50 1 = vn (sV s) := hV.2.1
  have e40 : M 51 40 = vf (sV s) := hV.F (by omega)
  have e41 : M 51 41 = vw (sV s) := hV.W (by omega)
  have o1 := oV.1
  have o2 := oV.2.1
  have o3 := oV.2.2.1
  refine x_iload_n 1 1 dX7_skip_0 rfl rfl (by decide) rfl ?_
  refine x_i2l 2 dX7_skip_1 rfl (by omega) ?_
  refine x_lconst 3 dX7_skip_2 rfl 0 rfl ?_
  refine x_ldc2 6 60 qX7_199 dX7_skip_3 rfl ?_
  refine x_sp 9 [_, _, _] (m_in _ _ _ (by omega) (by omega) (by omega)) mX7_in kX7_53 dX7_skip_6 rfl rfl rfl (Nat.le_of_ble_eq_true rfl) (by decide) ?_
  refine x_ifeq_b 22 12 dX7_skip_9 (by decide) rfl (fun h9 => ?_) (fun h9 => ?_)
  · refine x_iconst 23 dX7_skip_22 rfl ?_
    refine x_iret dX7_skip_23 rfl ⟨rfl, Nat.le_refl _⟩ (qi_i ?_)
    refine PM.same hC ?_
    unfold aSkip; rw [if_neg (by omega)]
  · refine x_iload_n 13 2 dX7_skip_12 rfl rfl (by decide) rfl ?_
    refine x_i2l 14 dX7_skip_13 rfl (by omega) ?_
    refine x_lconst 15 dX7_skip_14 rfl 0 rfl ?_
    refine x_lconst 16 dX7_skip_15 rfl 1 rfl ?_
    refine x_sp 19 [_, _, _] (m_in _ _ _ (by omega) (by omega) (by omega)) mX7_in kX7_53 dX7_skip_16 rfl rfl rfl (Nat.le_of_ble_eq_true rfl) (by decide) ?_
    refine x_ifne_b 24 22 dX7_skip_19 (by decide) rfl (fun h19 => ?_) (fun h19 => ?_)
    · obtain ⟨N, rfl⟩ := Int.eq_ofNat_of_zero_le (show 0 ≤ n by omega)
      have outer : ∀ (m i : Nat) (M2 : Mem) (j6 : Option Value), (vf (sV s)).toNat - i < m → i ≤ (vf (sV s)).toNat → SM M M2 → Bd (skipB (sV s) N i) → X g tX7_skip (kk0 5) 38 [some (rv g 50), some (iv N), some (iv w), some (iv (skipB (sV s) N i).2), some (iv (skipB (sV s) N i).1), some (iv i), j6] [] (S0, R0, M2) (QI (PM M (aSkip s N w) s)) := by
        intro m
        induction m with
        | zero => intro i M2 j6 k1 k2; omega
        | succ m ih =>
          intro i M2 j6 k1 k2 hSM hB
          have hV2 := hV.sm hSM (by omega)
          have f1 : M2 50 1 = vn (sV s) := hV2.2.1
          have f40 : M2 51 40 = vf (sV s) := hV2.F (by omega)
          have f19 : M2 50 19 = -4 := (hSM.2.1 19 (by omega)).trans hKs
          obtain ⟨hB1, hB2⟩ := id hB
          have hstep : skipB (sV s) N (i + 1) = off (skipB (sV s) N i) i (owed (skV (sV s) i N)) := rfl
          have ob := owed_bd (skV_WF oV (i : Int) N)
          refine x_iload 40 5 dX7_skip_38 rfl (by decide) rfl ?_
          refine x_aload_n 41 0 dX7_skip_40 rfl rfl (by decide) rfl ?_
          refine x_getR 44 0 51 dX7_skip_41 rfl fX7_7 rfl rfl rfl ?_
          refine x_bipush 46 dX7_skip_44 rfl (by decide) ?_
          refine x_iaload 47 dX7_skip_46 rfl rfl (by omega) (fun g46 => ?_)
          rw [f40]
          refine x_icmp_ge 104 50 dX7_skip_47 (by decide) rfl (by omega) (fun h47 => ?_) (fun h47 => ?_)
          · refine x_iload 106 4 dX7_skip_104 rfl (by decide) rfl ?_
            refine x_bipush 108 dX7_skip_106 rfl (by decide) ?_
            refine x_icmp_eq 115 111 dX7_skip_108 (by decide) rfl (by omega) (fun h108 => ?_) (fun h108 => ?_)
            · refine x_iload 117 4 dX7_skip_115 rfl (by decide) rfl ?_
              refine x_goto 121 dX7_skip_117 (by decide) ?_
              refine x_iret dX7_skip_121 rfl ⟨rfl, Nat.le_refl _⟩ (qi_i ?_)
              have ei : i = (vf (sV s)).toNat := by omega
              subst ei
              refine PM.scr hC ?_ hSM
              have y : aSkip s N w = ansB (skipB (sV s) N (vf (sV s)).toNat) w := by (unfold aSkip; rw [if_pos (by omega), Int.toNat_natCast])
              rw [y]
              first | exact ansB_a (by omega) | exact ansB_b (by omega) (by omega)
            · refine x_iload_n 112 2 dX7_skip_111 rfl rfl (by decide) rfl ?_
              refine x_if_ne 120 115 dX7_skip_112 (by decide) rfl (by omega) (fun h112 => ?_) (fun h112 => ?_)
              · refine x_iload_n 121 3 dX7_skip_120 rfl rfl (by decide) rfl ?_
                refine x_iret dX7_skip_121 rfl ⟨rfl, Nat.le_refl _⟩ (qi_i ?_)
                have ei : i = (vf (sV s)).toNat := by omega
                subst ei
                refine PM.scr hC ?_ hSM
                have y : aSkip s N w = ansB (skipB (sV s) N (vf (sV s)).toNat) w := by (unfold aSkip; rw [if_pos (by omega), Int.toNat_natCast])
                rw [y]
                first | exact ansB_a (by omega) | exact ansB_b (by omega) (by omega)
              · refine x_iload 117 4 dX7_skip_115 rfl (by decide) rfl ?_
                refine x_goto 121 dX7_skip_117 (by decide) ?_
                refine x_iret dX7_skip_121 rfl ⟨rfl, Nat.le_refl _⟩ (qi_i ?_)
                have ei : i = (vf (sV s)).toNat := by omega
                subst ei
                refine PM.scr hC ?_ hSM
                have y : aSkip s N w = ansB (skipB (sV s) N (vf (sV s)).toNat) w := by (unfold aSkip; rw [if_pos (by omega), Int.toNat_natCast])
                rw [y]
                first | exact ansB_a (by omega) | exact ansB_b (by omega) (by omega)
          · refine x_aload_n 51 0 dX7_skip_50 rfl rfl (by decide) rfl ?_
            refine x_iload 53 5 dX7_skip_51 rfl (by decide) rfl ?_
            refine x_putI 56 19 19 rfl dX7_skip_53 rfl fX7_25 rfl rfl rfl (by omega) ?_
            refine x_aload_n 57 0 dX7_skip_56 rfl rfl (by decide) rfl ?_
            refine x_iconst 58 dX7_skip_57 rfl ?_
            refine x_iload_n 59 1 dX7_skip_58 rfl rfl (by decide) rfl ?_
            refine x_vi 62 [_, _] (m_weeksGoS (hV2.up0 _ _ (by omega)) oV N (by omega) (by omega) i (up2_s _ _ _ _)) mX7_weeksGo kX7_201 dX7_skip_59 rfl rfl ⟨by decide, rfl⟩ rfl rfl (Nat.le_of_ble_eq_true rfl) (by decide) (fun r4 M4 q4 => ?_)
            obtain ⟨rfl, gF⟩ := q4
            refine x_istore 64 6 _ dX7_skip_62 rfl (by decide) rfl rfl ?_
            refine x_aload_n 65 0 dX7_skip_64 rfl rfl (by decide) rfl ?_
            refine x_bipush 67 dX7_skip_65 rfl (by decide) ?_
            refine x_putI 70 19 19 rfl dX7_skip_67 rfl fX7_25 rfl rfl rfl (by omega) ?_
            refine x_mem (fun Mw => SM M Mw) ⟨fun a h1 h2 h3 h4 h5 => ?_, fun k hk => ?_, fun k hk => ?_⟩ (fun Mw hSw => ?_)
            · rw [up2_o _ _ _ h1, gF.1 a h1 h2, up2_o _ _ _ h1]; exact hSM.1 a h1 h2 h3 h4 h5
            · rw [up2_i]
              by_cases e : k = 19
              · rw [if_pos e, e]; exact hKs.symm
              · rw [if_neg e, gF.2.1 k (by omega) (by omega) (by omega), up2_k _ _ _ e]; exact hSM.2.1 k hk
            · rw [up2_o _ _ _ (by omega), gF.2.2 k (by omega), up2_o _ _ _ (by omega)]; exact hSM.2.2 k hk
            refine x_cut 83 (fun z => z = ((off (skipB (sV s) N i) i (owed (skV (sV s) i N)))).1) (fun tail70 => ?_) (fun z70 hz70 => ?_)
            · refine x_iload 72 6 dX7_skip_70 rfl (by decide) rfl ?_
              refine x_iload_n 73 3 dX7_skip_72 rfl rfl (by decide) rfl ?_
              refine x_icmp_ge 81 76 dX7_skip_73 (by decide) rfl (by omega) (fun h73 => ?_) (fun h73 => ?_)
              · refine x_iload 83 4 dX7_skip_81 rfl (by decide) rfl ?_
                exact tail70 _ (off_1 (by omega))
              · refine x_iload 78 5 dX7_skip_76 rfl (by decide) rfl ?_
                refine x_goto 83 dX7_skip_78 (by decide) ?_
                exact tail70 _ (off_1 (by omega))
            · subst z70
              refine x_istore 85 4 _ dX7_skip_83 rfl (by decide) rfl rfl ?_
              refine x_cut 97 (fun z => z = ((off (skipB (sV s) N i) i (owed (skV (sV s) i N)))).2) (fun tail85 => ?_) (fun z85 hz85 => ?_)
              · refine x_iload 87 6 dX7_skip_85 rfl (by decide) rfl ?_
                refine x_iload_n 88 3 dX7_skip_87 rfl rfl (by decide) rfl ?_
                refine x_icmp_ge 96 91 dX7_skip_88 (by decide) rfl (by omega) (fun h88 => ?_) (fun h88 => ?_)
                · refine x_iload_n 97 3 dX7_skip_96 rfl rfl (by decide) rfl ?_
                  exact tail85 _ (off_2 (by omega))
                · refine x_iload 93 6 dX7_skip_91 rfl (by decide) rfl ?_
                  refine x_goto 97 dX7_skip_93 (by decide) ?_
                  exact tail85 _ (off_2 (by omega))
              · subst z85
                refine x_istore_n 98 3 _ dX7_skip_97 rfl rfl (by decide) rfl rfl ?_
                refine x_iinc 101 _ dX7_skip_98 rfl (by decide) rfl rfl rfl ?_
                refine x_goto 38 dX7_skip_101 (by decide) ?_
                have e0 := ih (i + 1) _ (some (iv (owed (skV (sV s) i N)))) (by omega) (by omega) hSw (by rw [hstep]; exact off_b hB (by omega) (by omega))
                rw [hstep] at e0
                exact e0
      refine x_aload_n 25 0 dX7_skip_24 rfl rfl (by decide) rfl ?_
      refine x_iconst 26 dX7_skip_25 rfl ?_
      refine x_iload_n 27 1 dX7_skip_26 rfl rfl (by decide) rfl ?_
      refine x_vi 30 [_, _] (m_weeksGo (Or.inl rfl) hV oV N (by omega) (by omega) hKs) mX7_weeksGo kX7_201 dX7_skip_27 rfl rfl ⟨by decide, rfl⟩ rfl rfl (Nat.le_of_ble_eq_true rfl) (by decide) (fun r1 M1 q1 => ?_)
      obtain ⟨rfl, g17, g18, g16, gR, gF⟩ := q1
      have ob := owed_bd (goV_WF oV N)
      refine x_istore_n 31 3 _ dX7_skip_30 rfl rfl (by decide) rfl rfl ?_
      refine x_bipush 33 dX7_skip_31 rfl (by decide) ?_
      refine x_istore 35 4 _ dX7_skip_33 rfl (by decide) rfl rfl ?_
      refine x_iconst 36 dX7_skip_35 rfl ?_
      refine x_istore 38 5 _ dX7_skip_36 rfl (by decide) rfl rfl ?_
      exact outer ((vf (sV s)).toNat + 1) 0 _ _ (by omega) (by omega) (SM.of gF (by omega)) ⟨⟨by show (-4 : Int) ≤ -4; omega, by show (-4 : Int) ≤ 1000; omega⟩, ob.1, by show owed (goV (sV s) N) ≤ 1000000; omega⟩
    · refine x_iconst 23 dX7_skip_22 rfl ?_
      refine x_iret dX7_skip_23 rfl ⟨rfl, Nat.le_refl _⟩ (qi_i ?_)
      refine PM.same hC ?_
      unfold aSkip; rw [if_neg (by omega)]

set_option maxHeartbeats 4000000 in
theorem r_most {g : GG} {M : Mem} {s : ST} (hC : Mdl M s) (hO : SOK s) (t n : Int) (ht : -2147483648 ≤ t ∧ t ≤ 2147483647) (hn : -2147483648 ≤ n ∧ n ≤ 2147483647) : CI g tX7_most 5 [rv g 50, iv t, iv n] M (PM M (aMost s t n) s) := by
  refine Con.of [some (rv g 50), some (iv t), some (iv n), none] (by decide +kernel) rfl (Nat.le_of_ble_eq_true rfl) ?_
  obtain ⟨hV, ⟨hk0, hk1, hi0, hi1⟩, ⟨hT1, hT2⟩, ⟨hS1, hS2⟩, hZ, hN, hF, hKs, hMC⟩ := id hC
  obtain ⟨oV, oW, oI0, oI1, oT, oTb, oS, oSb, oZ⟩ := id hO
  have e1 : M 50 1 = vn (sV s) := hV.2.1
  have e40 : M 51 40 = vf (sV s) := hV.F (by omega)
  have e41 : M 51 41 = vw (sV s) := hV.W (by omega)
  have o1 := oV.1
  have o2 := oV.2.1
  have o3 := oV.2.2.1
  refine x_aload_n 1 0 dX7_most_0 rfl rfl (by decide) rfl ?_
  refine x_iload_n 2 1 dX7_most_1 rfl rfl (by decide) rfl ?_
  refine x_vp 5 [_] (m_isTown _ t e1 (by omega) (by omega)) mX7_isTown kX7_131 dX7_most_2 rfl rfl ⟨by decide, rfl⟩ rfl rfl (Nat.le_of_ble_eq_true rfl) (by decide) ?_
  refine x_ifeq_b 20 8 dX7_most_5 (by decide) rfl (fun h5 => ?_) (fun h5 => ?_)
  · refine x_iconst 21 dX7_most_20 rfl ?_
    refine x_iret dX7_most_21 rfl ⟨rfl, Nat.le_refl _⟩ (qi_i ?_)
    refine PM.same hC ?_
    unfold aMost; rw [if_neg (by omega)]
  · refine x_iload_n 9 2 dX7_most_8 rfl rfl (by decide) rfl ?_
    refine x_i2l 10 dX7_most_9 rfl (by omega) ?_
    refine x_lconst 11 dX7_most_10 rfl 0 rfl ?_
    refine x_ldc2 14 60 qX7_199 dX7_most_11 rfl ?_
    refine x_sp 17 [_, _, _] (m_in _ _ _ (by omega) (by omega) (by omega)) mX7_in kX7_53 dX7_most_14 rfl rfl rfl (Nat.le_of_ble_eq_true rfl) (by decide) ?_
    refine x_ifne_b 22 20 dX7_most_17 (by decide) rfl (fun h17 => ?_) (fun h17 => ?_)
    · obtain ⟨N, rfl⟩ := Int.eq_ofNat_of_zero_le (show 0 ≤ n by omega)
      have ht2 : 0 ≤ t ∧ t < vn (sV s) := by omega
      have y : aMost s t N = mostF (sV s) t N 21 := by (unfold aMost; rw [if_pos (by omega), Int.toNat_natCast])
      have loop : ∀ (k : Nat) (M2 : Mem) (f : Int → Int), k ≤ 21 → RP M2 210 (setS (sV s) f) → (∀ z, z ≠ t → f z = vS (sV s) z) → SM M M2 → mostF (sV s) t N 21 = mostF (sV s) t N k → X g tX7_most (kk0 5) 33 [some (rv g 50), some (iv t), some (iv N), some (iv ((k : Int) - 1))] [] (S0, R0, M2) (QI (PM M (aMost s t N) s)) := by
        intro k
        induction k with
        | zero =>
          intro M2 f k1 hR2 hf hSM hm
          refine x_iload_n 34 3 dX7_most_33 rfl rfl (by decide) rfl ?_
          refine x_if_lt 70 37 dX7_most_34 (by decide) rfl (by omega) (fun h34 => ?_) (fun h34 => ?_)
          · refine x_bipush 72 dX7_most_70 rfl (by decide) ?_
            refine x_iret dX7_most_72 rfl ⟨rfl, Nat.le_refl _⟩ (qi_i ?_)
            refine PM.scr hC ?_ hSM
            rw [y, hm]; rfl
          · exfalso; omega
        | succ k ih =>
          intro M2 f k1 hR2 hf hSM hm
          rw [show ((k + 1 : Nat) : Int) - 1 = (k : Int) by omega]
          have hRs := RP_St hR2 hf (by omega) (k : Int) (215 + t) (by omega)
          have hwf : WF (setS (sV s) (fu (vS (sV s)) t k)) := setS_WF oV t k (by omega)
          have hms : mostF (sV s) t N (k + 1) = if flN (setS (sV s) (fu (vS (sV s)) t k)) t N ≠ -4 then (k : Int) else mostF (sV s) t N k := rfl
          have hfb := firstN_bd (p := fun i => decide (wkL (goV (setS (sV s) (fu (vS (sV s)) t k)) i) 0 = t)) (n := N) (by omega)
          have hfb2 : flN (setS (sV s) (fu (vS (sV s)) t k)) t N = -4 ∨ (0 ≤ flN (setS (sV s) (fu (vS (sV s)) t k)) t N ∧ flN (setS (sV s) (fu (vS (sV s)) t k)) t N ≤ 100) := hfb
          have hSu := hSM.up1 (215 + t) (k : Int) (by omega)
          refine x_iload_n 34 3 dX7_most_33 rfl rfl (by decide) rfl ?_
          refine x_if_lt 70 37 dX7_most_34 (by decide) rfl (by omega) (fun h34 => ?_) (fun h34 => ?_)
          · exfalso; omega
          · refine x_aload_n 38 0 dX7_most_37 rfl rfl (by decide) rfl ?_
            refine x_getR 41 0 51 dX7_most_38 rfl fX7_7 rfl rfl rfl ?_
            refine x_sipush 44 dX7_most_41 rfl (by decide) ?_
            refine x_iload_n 45 1 dX7_most_44 rfl rfl (by decide) rfl ?_
            refine x_iadd 46 dX7_most_45 rfl ?_
            refine x_iload_n 47 3 dX7_most_46 rfl rfl (by decide) rfl ?_
            refine x_iastore 48 dX7_most_47 rfl rfl (by omega) (by omega) ?_
            refine x_aload_n 49 0 dX7_most_48 rfl rfl (by decide) rfl ?_
            refine x_sipush 52 dX7_most_49 rfl (by decide) ?_
            refine x_iload_n 53 1 dX7_most_52 rfl rfl (by decide) rfl ?_
            refine x_iload_n 54 2 dX7_most_53 rfl rfl (by decide) rfl ?_
            refine x_vi 57 [_, _, _] (m_firstLoss (Or.inr rfl) hRs hwf t ht N (by omega) (by show vw (sV s) ≤ 10000; omega) ((hSu.2.1 19 (by omega)).trans hKs)) mX7_firstLoss kX7_206 dX7_most_54 rfl rfl ⟨by decide, rfl⟩ rfl rfl (Nat.le_of_ble_eq_true rfl) (by decide) (fun r3 M3 q3 => ?_)
            obtain ⟨rfl, gF⟩ := q3
            refine x_bipush 59 dX7_most_57 rfl (by decide) ?_
            refine x_icmp_eq 64 62 dX7_most_59 (by decide) rfl (by omega) (fun h59 => ?_) (fun h59 => ?_)
            · refine x_iinc 67 _ dX7_most_64 rfl (by decide) rfl rfl rfl ?_
              refine x_goto 33 dX7_most_67 (by decide) ?_
              rw [if_neg (by omega)] at hms
              exact ih _ _ (by omega) (hRs.keep (gF.2.1 1 (by omega) (by omega) (by omega)) (fun z a b => gF.2.2 z (by omega))) (fun z hz => fu_n _ _ hz) (hSu.tr (SM.of gF (by omega))) (hm.trans hms)
            · refine x_iload_n 63 3 dX7_most_62 rfl rfl (by decide) rfl ?_
              refine x_iret dX7_most_63 rfl ⟨rfl, Nat.le_refl _⟩ (qi_i ?_)
              refine PM.scr hC ?_ (hSu.tr (SM.of gF (by omega)))
              rw [if_pos (by omega)] at hms
              rw [y, hm, hms]
      refine x_aload_n 23 0 dX7_most_22 rfl rfl (by decide) rfl ?_
      refine x_iconst 24 dX7_most_23 rfl ?_
      refine x_sipush 27 dX7_most_24 rfl (by decide) ?_
      refine x_vv 30 [_, _] (m_copies 0 210 (by omega) (by omega) (by omega)) mX7_copies kX7_195 dX7_most_27 rfl rfl ⟨by decide, rfl⟩ rfl rfl (Nat.le_of_ble_eq_true rfl) (by decide) (fun Mc qc => ?_)
      have hRc := hV.copy qc
      refine x_bipush 32 dX7_most_30 rfl (by decide) ?_
      refine x_istore_n 33 3 _ dX7_most_32 rfl rfl (by decide) rfl rfl ?_
      exact loop 21 _ (vS (sV s)) (by omega) hRc (fun _ _ => rfl) (SM.of qc.fp (by omega)) rfl
    · refine x_iconst 21 dX7_most_20 rfl ?_
      refine x_iret dX7_most_21 rfl ⟨rfl, Nat.le_refl _⟩ (qi_i ?_)
      refine PM.same hC ?_
      unfold aMost; rw [if_neg (by omega)]

theorem kindB_in {v : LV} (h : WF v) (t : Int) (n : Nat) : ∀ k : Nat, k ≤ 4 → (k = 0 ∧ kindB v t n k = (-4, 496)) ∨ (0 < k ∧ 0 ≤ (kindB v t n k).1 ∧ (kindB v t n k).1 < 4 ∧ 0 ≤ (kindB v t n k).2 ∧ (kindB v t n k).2 ≤ 495)
  | 0, _ => Or.inl ⟨rfl, rfl⟩
  | k + 1, hk => by
    have ob := owed_bd (goV_WF (setK_WF h t (k : Int) (by omega)) n)
    have hs : kindB v t n (k + 1) = off (kindB v t n k) k (owed (goV (setK v (fu (vK v) t k)) n)) := rfl
    have ih := kindB_in h t n k (by omega)
    rw [hs]
    unfold off
    split
    · exact Or.inr ⟨by omega, by show (0 : Int) ≤ k; omega, by show (k : Int) < 4; omega, ob.1, ob.2⟩
    · next hlt =>
      rcases ih with ⟨_, e⟩ | ⟨h0, h1, h2, h3, h4⟩
      · rw [e] at hlt
        exact absurd (show owed (goV (setK v (fu (vK v) t k)) n) < 496 by omega) hlt
      · exact Or.inr ⟨by omega, h1, h2, h3, h4⟩
theorem off_any {p q : Int × Int} {x y : Int} (h1 : y < p.2) (h2 : y < q.2) : off p x y = off q x y := by
  unfold off; rw [if_pos h1, if_pos h2]

set_option maxHeartbeats 4000000 in
theorem r_kind {g : GG} {M : Mem} {s : ST} (hC : Mdl M s) (hO : SOK s) (t n w : Int) (ht : -2147483648 ≤ t ∧ t ≤ 2147483647) (hn : -2147483648 ≤ n ∧ n ≤ 2147483647) (hw : -2147483648 ≤ w ∧ w ≤ 2147483647) : CI g tX7_kind 5 [rv g 50, iv t, iv n, iv w] M (PM M (aKind s t n w) s) := by
  refine Con.of [some (rv g 50), some (iv t), some (iv n), some (iv w), none, none, none, none] (by decide +kernel) rfl (Nat.le_of_ble_eq_true rfl) ?_
  obtain ⟨hV, ⟨hk0, hk1, hi0, hi1⟩, ⟨hT1, hT2⟩, ⟨hS1, hS2⟩, hZ, hN, hF, hKs, hMC⟩ := id hC
  obtain ⟨oV, oW, oI0, oI1, oT, oTb, oS, oSb, oZ⟩ := id hO
  have e1 : M 50 1 = vn (sV s) := hV.2.1
  have e40 : M 51 40 = vf (sV s) := hV.F (by omega)
  have e41 : M 51 41 = vw (sV s) := hV.W (by omega)
  have o1 := oV.1
  have o2 := oV.2.1
  have o3 := oV.2.2.1
  refine x_aload_n 1 0 dX7_kind_0 rfl rfl (by decide) rfl ?_
  refine x_iload_n 2 1 dX7_kind_1 rfl rfl (by decide) rfl ?_
  refine x_vp 5 [_] (m_isTown _ t e1 (by omega) (by omega)) mX7_isTown kX7_131 dX7_kind_2 rfl rfl ⟨by decide, rfl⟩ rfl rfl (Nat.le_of_ble_eq_true rfl) (by decide) ?_
  refine x_ifeq_b 30 8 dX7_kind_5 (by decide) rfl (fun h5 => ?_) (fun h5 => ?_)
  · refine x_iconst 31 dX7_kind_30 rfl ?_
    refine x_iret dX7_kind_31 rfl ⟨rfl, Nat.le_refl _⟩ (qi_i ?_)
    refine PM.same hC ?_
    unfold aKind; rw [if_neg (by omega)]
  · refine x_iload_n 9 2 dX7_kind_8 rfl rfl (by decide) rfl ?_
    refine x_i2l 10 dX7_kind_9 rfl (by omega) ?_
    refine x_lconst 11 dX7_kind_10 rfl 0 rfl ?_
    refine x_ldc2 14 60 qX7_199 dX7_kind_11 rfl ?_
    refine x_sp 17 [_, _, _] (m_in _ _ _ (by omega) (by omega) (by omega)) mX7_in kX7_53 dX7_kind_14 rfl rfl rfl (Nat.le_of_ble_eq_true rfl) (by decide) ?_
    refine x_ifeq_b 30 20 dX7_kind_17 (by decide) rfl (fun h17 => ?_) (fun h17 => ?_)
    · refine x_iconst 31 dX7_kind_30 rfl ?_
      refine x_iret dX7_kind_31 rfl ⟨rfl, Nat.le_refl _⟩ (qi_i ?_)
      refine PM.same hC ?_
      unfold aKind; rw [if_neg (by omega)]
    · refine x_iload_n 21 3 dX7_kind_20 rfl rfl (by decide) rfl ?_
      refine x_i2l 22 dX7_kind_21 rfl (by omega) ?_
      refine x_lconst 23 dX7_kind_22 rfl 0 rfl ?_
      refine x_lconst 24 dX7_kind_23 rfl 1 rfl ?_
      refine x_sp 27 [_, _, _] (m_in _ _ _ (by omega) (by omega) (by omega)) mX7_in kX7_53 dX7_kind_24 rfl rfl rfl (Nat.le_of_ble_eq_true rfl) (by decide) ?_
      refine x_ifne_b 32 30 dX7_kind_27 (by decide) rfl (fun h27 => ?_) (fun h27 => ?_)
      · obtain ⟨N, rfl⟩ := Int.eq_ofNat_of_zero_le (show 0 ≤ n by omega)
        have ht2 : 0 ≤ t ∧ t < vn (sV s) := by omega
        have y : aKind s t N w = ansB (kindB (sV s) t N 4) w := by (unfold aKind; rw [if_pos (by omega), Int.toNat_natCast])
        have loop : ∀ (m k : Nat) (M2 : Mem) (f : Int → Int) (q : Int × Int) (j7 : Option Value), 4 - k < m → k ≤ 4 → RP M2 210 (setK (sV s) f) → (∀ z, z ≠ t → f z = vK (sV s) z) → SM M M2 → ((k = 0 ∧ q = (0, 1000000)) ∨ (0 < k ∧ q = kindB (sV s) t N k)) → Bd q → X g tX7_kind (kk0 5) 50 [some (rv g 50), some (iv t), some (iv N), some (iv w), some (iv q.2), some (iv q.1), some (iv k), j7] [] (S0, R0, M2) (QI (PM M (aKind s t N w) s)) := by
          intro m
          induction m with
          | zero => intro k M2 f q j7 k1 k2; omega
          | succ m ih =>
            intro k M2 f q j7 k1 k2 hR2 hf hSM hq hB
            obtain ⟨hB1, hB2⟩ := id hB
            have hki := kindB_in oV t N k k2
            refine x_iload 52 6 dX7_kind_50 rfl (by decide) rfl ?_
            refine x_iconst 53 dX7_kind_52 rfl ?_
            refine x_icmp_ge 116 56 dX7_kind_53 (by decide) rfl (by omega) (fun h53 => ?_) (fun h53 => ?_)
            · refine x_iload_n 117 3 dX7_kind_116 rfl rfl (by decide) rfl ?_
              refine x_if_ne 125 120 dX7_kind_117 (by decide) rfl (by omega) (fun h117 => ?_) (fun h117 => ?_)
              · refine x_iload 127 4 dX7_kind_125 rfl (by decide) rfl ?_
                refine x_iret dX7_kind_127 rfl ⟨rfl, Nat.le_refl _⟩ (qi_i ?_)
                have ek : k = 4 := by omega
                subst ek
                refine PM.scr hC ?_ hSM
                rcases hq with ⟨h0, e⟩ | ⟨h0, e⟩
                · omega
                · rw [y, ← e]
                  have hq4 : q.1 ≠ -4 := by (rw [e]; omega)
                  first | exact ansB_a (by omega) | exact ansB_b (by omega) (by omega)
              · refine x_iload 122 5 dX7_kind_120 rfl (by decide) rfl ?_
                refine x_goto 127 dX7_kind_122 (by decide) ?_
                refine x_iret dX7_kind_127 rfl ⟨rfl, Nat.le_refl _⟩ (qi_i ?_)
                have ek : k = 4 := by omega
                subst ek
                refine PM.scr hC ?_ hSM
                rcases hq with ⟨h0, e⟩ | ⟨h0, e⟩
                · omega
                · rw [y, ← e]
                  have hq4 : q.1 ≠ -4 := by (rw [e]; omega)
                  first | exact ansB_a (by omega) | exact ansB_b (by omega) (by omega)
            · have hRs := RP_Kt hR2 hf (by omega) (k : Int) (210 + t) (by omega)
              have hwf : WF (setK (sV s) (fu (vK (sV s)) t k)) := setK_WF oV t k (by omega)
              have hSu := hSM.up1 (210 + t) (k : Int) (by omega)
              have hks : kindB (sV s) t N (k + 1) = off (kindB (sV s) t N k) k (owed (goV (setK (sV s) (fu (vK (sV s)) t k)) N)) := rfl
              refine x_aload_n 57 0 dX7_kind_56 rfl rfl (by decide) rfl ?_
              refine x_getR 60 0 51 dX7_kind_57 rfl fX7_7 rfl rfl rfl ?_
              refine x_sipush 63 dX7_kind_60 rfl (by decide) ?_
              refine x_iload_n 64 1 dX7_kind_63 rfl rfl (by decide) rfl ?_
              refine x_iadd 65 dX7_kind_64 rfl ?_
              refine x_iload 67 6 dX7_kind_65 rfl (by decide) rfl ?_
              refine x_iastore 68 dX7_kind_67 rfl rfl (by omega) (by omega) ?_
              refine x_aload_n 69 0 dX7_kind_68 rfl rfl (by decide) rfl ?_
              refine x_sipush 72 dX7_kind_69 rfl (by decide) ?_
              refine x_iload_n 73 2 dX7_kind_72 rfl rfl (by decide) rfl ?_
              refine x_vi 76 [_, _] (m_weeksGo (Or.inr rfl) hRs hwf N (by omega) (by show vw (sV s) ≤ 10000; omega) ((hSu.2.1 19 (by omega)).trans hKs)) mX7_weeksGo kX7_201 dX7_kind_73 rfl rfl ⟨by decide, rfl⟩ rfl rfl (Nat.le_of_ble_eq_true rfl) (by decide) (fun r4 M4 q4 => ?_)
              obtain ⟨rfl, -, -, -, -, gF⟩ := q4
              have ob := owed_bd (goV_WF hwf N)
              refine x_istore 78 7 _ dX7_kind_76 rfl (by decide) rfl rfl ?_
              refine x_cut 92 (fun z => z = ((off q k (owed (goV (setK (sV s) (fu (vK (sV s)) t k)) N)))).1) (fun tail78 => ?_) (fun z78 hz78 => ?_)
              · refine x_iload 80 7 dX7_kind_78 rfl (by decide) rfl ?_
                refine x_iload 82 4 dX7_kind_80 rfl (by decide) rfl ?_
                refine x_icmp_ge 90 85 dX7_kind_82 (by decide) rfl (by omega) (fun h82 => ?_) (fun h82 => ?_)
                · refine x_iload 92 5 dX7_kind_90 rfl (by decide) rfl ?_
                  exact tail78 _ (off_1 (by omega))
                · refine x_iload 87 6 dX7_kind_85 rfl (by decide) rfl ?_
                  refine x_goto 92 dX7_kind_87 (by decide) ?_
                  exact tail78 _ (off_1 (by omega))
              · subst z78
                refine x_istore 94 5 _ dX7_kind_92 rfl (by decide) rfl rfl ?_
                refine x_cut 108 (fun z => z = ((off q k (owed (goV (setK (sV s) (fu (vK (sV s)) t k)) N)))).2) (fun tail94 => ?_) (fun z94 hz94 => ?_)
                · refine x_iload 96 7 dX7_kind_94 rfl (by decide) rfl ?_
                  refine x_iload 98 4 dX7_kind_96 rfl (by decide) rfl ?_
                  refine x_icmp_ge 106 101 dX7_kind_98 (by decide) rfl (by omega) (fun h98 => ?_) (fun h98 => ?_)
                  · refine x_iload 108 4 dX7_kind_106 rfl (by decide) rfl ?_
                    exact tail94 _ (off_2 (by omega))
                  · refine x_iload 103 7 dX7_kind_101 rfl (by decide) rfl ?_
                    refine x_goto 108 dX7_kind_103 (by decide) ?_
                    exact tail94 _ (off_2 (by omega))
                · subst z94
                  refine x_istore 110 4 _ dX7_kind_108 rfl (by decide) rfl rfl ?_
                  refine x_iinc 113 _ dX7_kind_110 rfl (by decide) rfl rfl rfl ?_
                  refine x_goto 50 dX7_kind_113 (by decide) ?_
                  refine ih (k + 1) _ _ ((off q k (owed (goV (setK (sV s) (fu (vK (sV s)) t k)) N)))) _ (by omega) (by omega) (hRs.keep (gF.2.1 1 (by omega) (by omega) (by omega)) (fun z a b => gF.2.2 z (by omega))) (fun z hz => fu_n _ _ hz) (hSu.tr (SM.of gF (by omega))) (Or.inr ⟨by omega, ?_⟩) (off_b hB (by omega) (by omega))
                  rw [hks]
                  rcases hq with ⟨h0, e⟩ | ⟨h0, e⟩
                  · subst h0
                    rw [e]
                    exact off_any (by show _ < (1000000 : Int); omega) (by show _ < (496 : Int); omega)
                  · rw [e]
        refine x_ldc 34 1000000 qX7_213 dX7_kind_32 rfl ?_
        refine x_istore 36 4 _ dX7_kind_34 rfl (by decide) rfl rfl ?_
        refine x_iconst 37 dX7_kind_36 rfl ?_
        refine x_istore 39 5 _ dX7_kind_37 rfl (by decide) rfl rfl ?_
        refine x_aload_n 40 0 dX7_kind_39 rfl rfl (by decide) rfl ?_
        refine x_iconst 41 dX7_kind_40 rfl ?_
        refine x_sipush 44 dX7_kind_41 rfl (by decide) ?_
        refine x_vv 47 [_, _] (m_copies 0 210 (by omega) (by omega) (by omega)) mX7_copies kX7_195 dX7_kind_44 rfl rfl ⟨by decide, rfl⟩ rfl rfl (Nat.le_of_ble_eq_true rfl) (by decide) (fun Mc qc => ?_)
        have hRc := hV.copy qc
        refine x_iconst 48 dX7_kind_47 rfl ?_
        refine x_istore 50 6 _ dX7_kind_48 rfl (by decide) rfl rfl ?_
        exact loop 5 0 _ (vK (sV s)) (0, 1000000) _ (by omega) (by omega) hRc (fun _ _ => rfl) (SM.of qc.fp (by omega)) (Or.inl ⟨rfl, rfl⟩) ⟨⟨by show (-4 : Int) ≤ 0; omega, by show (0 : Int) ≤ 1000; omega⟩, by show (0 : Int) ≤ 1000000; omega, by show (1000000 : Int) ≤ 1000000; omega⟩
      · refine x_iconst 31 dX7_kind_30 rfl ?_
        refine x_iret dX7_kind_31 rfl ⟨rfl, Nat.le_refl _⟩ (qi_i ?_)
        refine PM.same hC ?_
        unfold aKind; rw [if_neg (by omega)]
