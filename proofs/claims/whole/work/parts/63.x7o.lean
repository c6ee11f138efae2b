theorem sgnO_b (b : Int → Int) (n p : Int) : 0 ≤ sgnO b n p ∧ sgnO b n p ≤ 2 := by
  unfold sgnO
  repeat' split
  all_goals omega
theorem gmO_b (b : Int → Int) (n p : Int) : 0 ≤ (gmO b n p).1 ∧ (gmO b n p).1 ≤ 3 := by
  have h1 := numO_b b n p 4
  have h2 := numO_b b n (tkE b n p) 4
  unfold gmO
  repeat' split
  · exact h1
  · exact h2
  · exact ⟨by show (0 : Int) ≤ 3; omega, by show (3 : Int) ≤ 3; omega⟩
  · exact ⟨by show (0 : Int) ≤ 0; omega, by show (0 : Int) ≤ 3; omega⟩
theorem lnT_e {b : Int → Int} {n w s0 p : Int} {d : LV} (h : vn d < 5) : lnT b n d w s0 p = if numO b n p 20 ≠ 0 then (numO b n p 20, tkS b n p, 0, d) else if sgnO b n (tkE b n p) ≠ 0 then (sgnO b n (tkE b n p), tkS b n (tkE b n p), 0, d) else (0, 0, tkE b n (tkE b n p), addT d w (tkV b n p)) := by
  unfold lnT; rw [if_neg (by omega)]
theorem lnG_e {b : Int → Int} {n s0 p : Int} {d : LV} (h : vf d < 10) : lnG b n d s0 p = if (gmO b n p).1 ≠ 0 then ((gmO b n p).1, (gmO b n p).2, 0, d) else if sgnO b n (tkE b n (tkE b n p)) ≠ 0 then (sgnO b n (tkE b n (tkE b n p)), tkS b n (tkE b n (tkE b n p)), 0, d) else (0, 0, tkE b n (tkE b n (tkE b n p)), addF d (tkV b n p) (tkV b n (tkE b n p))) := by
  unfold lnG gmO
  rw [if_neg (by omega)]
  by_cases h1 : numO b n p 4 ≠ 0
  · rw [if_pos h1, if_pos h1, if_pos h1]
  · rw [if_neg h1, if_neg h1]
    by_cases h2 : numO b n (tkE b n p) 4 ≠ 0
    · rw [if_pos h2, if_pos h2, if_pos h2]
    · rw [if_neg h2, if_neg h2]
      by_cases h3 : tkV b n p = tkV b n (tkE b n p)
      · rw [if_pos h3, if_pos h3, if_pos (by show (3 : Int) ≠ 0; omega)]
      · rw [if_neg h3, if_neg h3, if_neg (show ¬ ((0 : Int), (0 : Int)).1 ≠ 0 by show ¬ (0 : Int) ≠ 0; omega)]

set_option maxHeartbeats 4000000 in
theorem m_readLine {g : GG} {M : Mem} {n : Int} {b : Int → Int} {d : LV} (hT : TQ M n b) (p : Int) (hK : TKS b n p M) (hB : tkBb b n p = false) (hpn : 0 ≤ p ∧ p ≤ n) (hD : RD M d) (hTT : TT M d) (hn5 : 0 ≤ vn d ∧ vn d ≤ 5) (hf10 : 0 ≤ vf d ∧ vf d ≤ 10) : CV g tX7_readLine 5 [rv g 50] M (fun M2 => FD M M2 ∧ ((lnP b n d p).1 ≠ 0 → M2 50 8 = (lnP b n d p).1 ∧ M2 50 9 = (lnP b n d p).2.1) ∧ ((lnP b n d p).1 = 0 → TKS b n (lnP b n d p).2.2.1 M2 ∧ RD M2 (lnP b n d p).2.2.2 ∧ TT M2 (lnP b n d p).2.2.2)) := by
  refine Con.of [some (rv g 50), none] (by decide +kernel) rfl (Nat.le_of_ble_eq_true rfl) ?_
  obtain ⟨a11, a12, a10, -, a8_⟩ := id hK
  obtain ⟨a8, a13⟩ := a8_ hB
  have hE := tkE_le (b := b) hpn.2
  have hS := tkS_le (b := b) hpn.2
  have d3 := hD.1
  have d40 := hD.2.1
  have wi := lnW_in b n p
  have hnm := m_nameHere (g := g) hT (tkS b n p) (tkE b n p) a11 a10 (by omega)
  rw [a12] at hnm
  have hnm : CP g tX7_nameHere 1 [rv g 50] M (nmR (lnW b n p)) := hnm
  have tail75 : ∀ (M3 : Mem) (c pl pq : Int) (d2 : LV) (j1 : Option Value), FD M M3 → (0 ≤ c ∧ c ≤ 3) → (c ≠ 0 → M3 50 8 = c ∧ M3 50 9 = pl) → (c = 0 → TKS b n pq M3 ∧ RD M3 d2 ∧ TT M3 d2) → (0 ≤ pq ∧ pq ≤ n) → lnP b n d p = (if c ≠ 0 then (c, pl, 0, d) else if sgnO b n pq ≠ 0 then (sgnO b n pq, tkS b n pq, 0, d) else (0, 0, tkE b n pq, d2)) → X g tX7_readLine (kk0 5) 75 [some (rv g 50), j1] [] (S0, R0, M3) (QV (fun M2 => FD M M2 ∧ ((lnP b n d p).1 ≠ 0 → M2 50 8 = (lnP b n d p).1 ∧ M2 50 9 = (lnP b n d p).2.1) ∧ ((lnP b n d p).1 = 0 → TKS b n (lnP b n d p).2.2.1 M2 ∧ RD M2 (lnP b n d p).2.2.2 ∧ TT M2 (lnP b n d p).2.2.2))) := by
    intro M3 c pl pq d2 j1 hF3 hc qa qb hpq hln
    have hE2 := tkE_le (b := b) hpq.2
    have kb := tkK_b b n pq
    have hS2 := tkS_le (b := b) hpq.2
    by_cases hz : c ≠ 0
    · obtain ⟨u8, u9⟩ := qa hz
      rw [if_pos hz] at hln
      refine x_aload_n 76 0 dX7_readLine_75 rfl rfl (by decide) rfl ?_
      refine x_getI 79 8 8 rfl dX7_readLine_76 rfl fX7_60 rfl rfl (fun g76 => ?_)
      refine x_if_ne 95 82 dX7_readLine_79 (by decide) rfl (by omega) (fun h79 => ?_) (fun h79 => ?_)
      · refine x_aload_n 96 0 dX7_readLine_95 rfl rfl (by decide) rfl ?_
        refine x_vv 99 [] (m_stepB (by omega)) mX7_step kX7_94 dX7_readLine_96 rfl rfl ⟨by decide, rfl⟩ rfl rfl (Nat.le_of_ble_eq_true rfl) (by decide) (fun M4 q4 => ?_)
        subst q4
        refine x_vret dX7_readLine_99 rfl ⟨rfl, Nat.le_refl _⟩ (qv_i ?_)
        rw [hln]
        exact ⟨hF3, fun _ => ⟨u8, u9⟩, fun q => absurd q hz⟩
      · exfalso; omega
    · rw [if_neg hz] at hln
      obtain ⟨hK3, hD3, hT3⟩ := qb (Decidable.not_not.mp hz)
      obtain ⟨v11, v12, v10, v8b, v8_⟩ := id hK3
      by_cases hB3 : tkBb b n pq = true
      · obtain ⟨u8, u9⟩ := v8b hB3
        have hsg : sgnO b n pq = 1 := by (unfold sgnO; rw [if_pos hB3])
        rw [if_pos (by omega), hsg] at hln
        refine x_aload_n 76 0 dX7_readLine_75 rfl rfl (by decide) rfl ?_
        refine x_getI 79 8 8 rfl dX7_readLine_76 rfl fX7_60 rfl rfl (fun g76 => ?_)
        refine x_if_ne 95 82 dX7_readLine_79 (by decide) rfl (by omega) (fun h79 => ?_) (fun h79 => ?_)
        · refine x_aload_n 96 0 dX7_readLine_95 rfl rfl (by decide) rfl ?_
          refine x_vv 99 [] (m_stepB (by omega)) mX7_step kX7_94 dX7_readLine_96 rfl rfl ⟨by decide, rfl⟩ rfl rfl (Nat.le_of_ble_eq_true rfl) (by decide) (fun M4 q4 => ?_)
          subst q4
          refine x_vret dX7_readLine_99 rfl ⟨rfl, Nat.le_refl _⟩ (qv_i ?_)
          rw [hln]
          exact ⟨hF3, fun _ => ⟨u8, u9⟩, fun q => absurd q (by show ¬ (1 : Int) = 0; omega)⟩
        · exfalso; omega
      · have hB3 : tkBb b n pq = false := Bool.eq_false_iff.mpr hB3
        obtain ⟨v8, v13⟩ := v8_ hB3
        by_cases hs3 : tkK b n pq = 3
        · have hsg : sgnO b n pq = 0 := by (unfold sgnO; rw [hB3, if_neg (by decide), if_neg (by omega)])
          rw [if_neg (by omega)] at hln
          refine x_aload_n 76 0 dX7_readLine_75 rfl rfl (by decide) rfl ?_
          refine x_getI 79 8 8 rfl dX7_readLine_76 rfl fX7_60 rfl rfl (fun g76 => ?_)
          rw [v8]
          refine x_if_ne 95 82 dX7_readLine_79 (by decide) rfl (by omega) (fun h79 => ?_) (fun h79 => ?_)
          · exfalso; omega
          · refine x_aload_n 83 0 dX7_readLine_82 rfl rfl (by decide) rfl ?_
            refine x_getI 86 12 12 rfl dX7_readLine_83 rfl fX7_69 rfl rfl (fun g83 => ?_)
            rw [v12]
            refine x_iconst 87 dX7_readLine_86 rfl ?_
            refine x_icmp_eq 95 90 dX7_readLine_87 (by decide) rfl (by omega) (fun h87 => ?_) (fun h87 => ?_)
            · refine x_aload_n 96 0 dX7_readLine_95 rfl rfl (by decide) rfl ?_
              refine x_vv 99 [] (m_step (hT.fl hF3) (tkE b n pq) v10 v8 (by omega)) mX7_step kX7_94 dX7_readLine_96 rfl rfl ⟨by decide, rfl⟩ rfl rfl (Nat.le_of_ble_eq_true rfl) (by decide) (fun M4 q4 => ?_)
              obtain ⟨hK4, hF4⟩ := q4
              refine x_vret dX7_readLine_99 rfl ⟨rfl, Nat.le_refl _⟩ (qv_i ?_)
              rw [hln]
              exact ⟨hF3.tr (FD.fs hF4), fun q => absurd rfl q, fun _ => ⟨hK4, hD3.keep (hF4.2 3 (by omega)) (hF4.1 52 (by omega)), hT3.keep (hF4.2 4 (by omega))⟩⟩
            · exfalso; omega
        · have hsg : sgnO b n pq = 2 := by (unfold sgnO; rw [hB3, if_neg (by decide), if_pos hs3])
          rw [if_pos (by omega), hsg] at hln
          refine x_aload_n 76 0 dX7_readLine_75 rfl rfl (by decide) rfl ?_
          refine x_getI 79 8 8 rfl dX7_readLine_76 rfl fX7_60 rfl rfl (fun g76 => ?_)
          rw [v8]
          refine x_if_ne 95 82 dX7_readLine_79 (by decide) rfl (by omega) (fun h79 => ?_) (fun h79 => ?_)
          · exfalso; omega
          · refine x_aload_n 83 0 dX7_readLine_82 rfl rfl (by decide) rfl ?_
            refine x_getI 86 12 12 rfl dX7_readLine_83 rfl fX7_69 rfl rfl (fun g83 => ?_)
            rw [v12]
            refine x_iconst 87 dX7_readLine_86 rfl ?_
            refine x_icmp_eq 95 90 dX7_readLine_87 (by decide) rfl (by omega) (fun h87 => ?_) (fun h87 => ?_)
            · exfalso; omega
            · refine x_aload_n 91 0 dX7_readLine_90 rfl rfl (by decide) rfl ?_
              refine x_iconst 92 dX7_readLine_91 rfl ?_
              refine x_vv 95 [_] (m_fails 2 (by omega)) mX7_fails kX7_90 dX7_readLine_92 rfl rfl ⟨by decide, rfl⟩ rfl rfl (Nat.le_of_ble_eq_true rfl) (by decide) (fun M5 q5 => ?_)
              rw [if_pos v8] at q5
              have u8 : M5 50 8 = 2 := by (rw [q5, up2_k _ _ _ (by omega), up2_s])
              have u9 : M5 50 9 = tkS b n pq := by (rw [q5, up2_s]; exact v11)
              have hF5 : FD M M5 := by (rw [q5]; exact (hF3.up0 _ _ (by omega)).up0 _ _ (by omega))
              refine x_aload_n 96 0 dX7_readLine_95 rfl rfl (by decide) rfl ?_
              refine x_vv 99 [] (m_stepB (by omega)) mX7_step kX7_94 dX7_readLine_96 rfl rfl ⟨by decide, rfl⟩ rfl rfl (Nat.le_of_ble_eq_true rfl) (by decide) (fun M4 q4 => ?_)
              subst q4
              refine x_vret dX7_readLine_99 rfl ⟨rfl, Nat.le_refl _⟩ (qv_i ?_)
              rw [hln]
              exact ⟨hF5, fun _ => ⟨u8, u9⟩, fun q => absurd q (by show ¬ (2 : Int) = 0; omega)⟩
  by_cases hw1 : lnW b n p = -1
  · have hln : lnP b n d p = (2, tkS b n p, 0, d) := by (unfold lnP; rw [if_pos hw1])
    have hnr : nmR (lnW b n p) = -4 := by (unfold nmR; rw [if_pos hw1])
    rw [hnr] at hnm
    refine x_aload_n 1 0 dX7_readLine_0 rfl rfl (by decide) rfl ?_
    refine x_vp 4 [] (hnm) mX7_nameHere kX7_111 dX7_readLine_1 rfl rfl ⟨by decide, rfl⟩ rfl rfl (Nat.le_of_ble_eq_true rfl) (by decide) ?_
    refine x_istore_n 5 1 _ dX7_readLine_4 rfl rfl (by decide) rfl rfl ?_
    refine x_iload_n 6 1 dX7_readLine_5 rfl rfl (by decide) rfl ?_
    refine x_i2l 7 dX7_readLine_6 rfl (by omega) ?_
    refine x_lconst 8 dX7_readLine_7 rfl 0 rfl ?_
    refine x_ldc2 11 4 qX7_114 dX7_readLine_8 rfl ?_
    refine x_sp 14 [_, _, _] (m_in _ _ _ (by omega) (by omega) (by omega)) mX7_in kX7_53 dX7_readLine_11 rfl rfl rfl (Nat.le_of_ble_eq_true rfl) (by decide) ?_
    refine x_ifne_b 23 17 dX7_readLine_14 (by decide) rfl (fun h14 => ?_) (fun h14 => ?_)
    · exfalso; omega
    · refine x_aload_n 18 0 dX7_readLine_17 rfl rfl (by decide) rfl ?_
      refine x_iconst 19 dX7_readLine_18 rfl ?_
      refine x_vv 22 [_] (m_fails 2 (by omega)) mX7_fails kX7_90 dX7_readLine_19 rfl rfl ⟨by decide, rfl⟩ rfl rfl (Nat.le_of_ble_eq_true rfl) (by decide) (fun M5 q5 => ?_)
      rw [if_pos a8] at q5
      have u8 : M5 50 8 = 2 := by (rw [q5, up2_k _ _ _ (by omega), up2_s])
      have u9 : M5 50 9 = tkS b n p := by (rw [q5, up2_s]; exact a11)
      have hF5 : FD M M5 := by (rw [q5]; exact ((FD.rf M).up0 _ _ (by omega)).up0 _ _ (by omega))
      refine x_vret dX7_readLine_22 rfl ⟨rfl, Nat.le_refl _⟩ (qv_i ?_)
      rw [hln]
      exact ⟨hF5, fun _ => ⟨u8, u9⟩, fun q => absurd q (by show ¬ (2 : Int) = 0; omega)⟩
  · have hnr : nmR (lnW b n p) = lnW b n p := by (unfold nmR; rw [if_neg hw1])
    rw [hnr] at hnm
    have hwb : 0 ≤ lnW b n p ∧ lnW b n p ≤ 4 := by omega
    by_cases hw4 : lnW b n p = 4
    · have hlg : lnP b n d p = lnG b n d (tkS b n p) (tkE b n p) := by (unfold lnP; rw [if_neg hw1, if_pos hw4])
      rw [hw4] at hnm
      by_cases h10 : vf d = 10
      · have hln : lnP b n d p = (5, tkS b n p, 0, d) := by (rw [hlg]; unfold lnG; rw [if_pos (by omega)])
        refine x_aload_n 1 0 dX7_readLine_0 rfl rfl (by decide) rfl ?_
        refine x_vp 4 [] (hnm) mX7_nameHere kX7_111 dX7_readLine_1 rfl rfl ⟨by decide, rfl⟩ rfl rfl (Nat.le_of_ble_eq_true rfl) (by decide) ?_
        refine x_istore_n 5 1 _ dX7_readLine_4 rfl rfl (by decide) rfl rfl ?_
        refine x_iload_n 6 1 dX7_readLine_5 rfl rfl (by decide) rfl ?_
        refine x_i2l 7 dX7_readLine_6 rfl (by omega) ?_
        refine x_lconst 8 dX7_readLine_7 rfl 0 rfl ?_
        refine x_ldc2 11 4 qX7_114 dX7_readLine_8 rfl ?_
        refine x_sp 14 [_, _, _] (m_in _ _ _ (by omega) (by omega) (by omega)) mX7_in kX7_53 dX7_readLine_11 rfl rfl rfl (Nat.le_of_ble_eq_true rfl) (by decide) ?_
        refine x_ifne_b 23 17 dX7_readLine_14 (by decide) rfl (fun h14 => ?_) (fun h14 => ?_)
        · refine x_iload_n 24 1 dX7_readLine_23 rfl rfl (by decide) rfl ?_
          refine x_iconst 25 dX7_readLine_24 rfl ?_
          refine x_icmp_gt 36 28 dX7_readLine_25 (by decide) rfl (by omega) (fun h25 => ?_) (fun h25 => ?_)
          · refine x_iload_n 37 1 dX7_readLine_36 rfl rfl (by decide) rfl ?_
            refine x_iconst 38 dX7_readLine_37 rfl ?_
            refine x_icmp_ne 58 41 dX7_readLine_38 (by decide) rfl (by omega) (fun h38 => ?_) (fun h38 => ?_)
            · exfalso; omega
            · refine x_aload_n 42 0 dX7_readLine_41 rfl rfl (by decide) rfl ?_
              refine x_getR 45 2 52 dX7_readLine_42 rfl fX7_13 rfl rfl rfl ?_
              refine x_bipush 47 dX7_readLine_45 rfl (by decide) ?_
              refine x_iaload 48 dX7_readLine_47 rfl rfl (by omega) (fun g47 => ?_)
              rw [d40]
              refine x_bipush 50 dX7_readLine_48 rfl (by decide) ?_
              refine x_icmp_ne 58 53 dX7_readLine_50 (by decide) rfl (by omega) (fun h50 => ?_) (fun h50 => ?_)
              · exfalso; omega
              · refine x_aload_n 54 0 dX7_readLine_53 rfl rfl (by decide) rfl ?_
                refine x_iconst 55 dX7_readLine_54 rfl ?_
                refine x_vv 58 [_] (m_fails 5 (by omega)) mX7_fails kX7_90 dX7_readLine_55 rfl rfl ⟨by decide, rfl⟩ rfl rfl (Nat.le_of_ble_eq_true rfl) (by decide) (fun M5 q5 => ?_)
                rw [if_pos a8] at q5
                have u8 : M5 50 8 = 5 := by (rw [q5, up2_k _ _ _ (by omega), up2_s])
                have u9 : M5 50 9 = tkS b n p := by (rw [q5, up2_s]; exact a11)
                have hF5 : FD M M5 := by (rw [q5]; exact ((FD.rf M).up0 _ _ (by omega)).up0 _ _ (by omega))
                refine x_aload_n 59 0 dX7_readLine_58 rfl rfl (by decide) rfl ?_
                refine x_vv 62 [] (m_stepB (by omega)) mX7_step kX7_94 dX7_readLine_59 rfl rfl ⟨by decide, rfl⟩ rfl rfl (Nat.le_of_ble_eq_true rfl) (by decide) (fun M4 q4 => ?_)
                subst q4
                refine x_aload_n 63 0 dX7_readLine_62 rfl rfl (by decide) rfl ?_
                refine x_getI 66 8 8 rfl dX7_readLine_63 rfl fX7_60 rfl rfl (fun g63 => ?_)
                refine x_if_le 70 69 dX7_readLine_66 (by decide) rfl (by omega) (fun h66 => ?_) (fun h66 => ?_)
                · exfalso; omega
                · refine x_vret dX7_readLine_69 rfl ⟨rfl, Nat.le_refl _⟩ (qv_i ?_)
                  rw [hln]
                  exact ⟨hF5, fun _ => ⟨u8, u9⟩, fun q => absurd q (by show ¬ (5 : Int) = 0; omega)⟩
          · exfalso; omega
        · exfalso; omega
      · have hvf : 0 ≤ vf d ∧ vf d < 10 := by omega
        have hge := lnG_e (b := b) (n := n) (s0 := tkS b n p) (p := tkE b n p) hvf.2
        rw [← hlg] at hge
        by_cases hB2 : tkBb b n (tkE b n p) = true
        · have hn1 : numO b n (tkE b n p) 4 = 1 := by (unfold numO; rw [if_pos hB2])
          have hg1 : gmO b n (tkE b n p) = (1, tkS b n (tkE b n p)) := by (unfold gmO; rw [if_pos (by omega), hn1])
          rw [hg1, if_pos (by show (1 : Int) ≠ 0; omega)] at hge
          refine x_aload_n 1 0 dX7_readLine_0 rfl rfl (by decide) rfl ?_
          refine x_vp 4 [] (hnm) mX7_nameHere kX7_111 dX7_readLine_1 rfl rfl ⟨by decide, rfl⟩ rfl rfl (Nat.le_of_ble_eq_true rfl) (by decide) ?_
          refine x_istore_n 5 1 _ dX7_readLine_4 rfl rfl (by decide) rfl rfl ?_
          refine x_iload_n 6 1 dX7_readLine_5 rfl rfl (by decide) rfl ?_
          refine x_i2l 7 dX7_readLine_6 rfl (by omega) ?_
          refine x_lconst 8 dX7_readLine_7 rfl 0 rfl ?_
          refine x_ldc2 11 4 qX7_114 dX7_readLine_8 rfl ?_
          refine x_sp 14 [_, _, _] (m_in _ _ _ (by omega) (by omega) (by omega)) mX7_in kX7_53 dX7_readLine_11 rfl rfl rfl (Nat.le_of_ble_eq_true rfl) (by decide) ?_
          refine x_ifne_b 23 17 dX7_readLine_14 (by decide) rfl (fun h14 => ?_) (fun h14 => ?_)
          · refine x_iload_n 24 1 dX7_readLine_23 rfl rfl (by decide) rfl ?_
            refine x_iconst 25 dX7_readLine_24 rfl ?_
            refine x_icmp_gt 36 28 dX7_readLine_25 (by decide) rfl (by omega) (fun h25 => ?_) (fun h25 => ?_)
            · refine x_iload_n 37 1 dX7_readLine_36 rfl rfl (by decide) rfl ?_
              refine x_iconst 38 dX7_readLine_37 rfl ?_
              refine x_icmp_ne 58 41 dX7_readLine_38 (by decide) rfl (by omega) (fun h38 => ?_) (fun h38 => ?_)
              · exfalso; omega
              · refine x_aload_n 42 0 dX7_readLine_41 rfl rfl (by decide) rfl ?_
                refine x_getR 45 2 52 dX7_readLine_42 rfl fX7_13 rfl rfl rfl ?_
                refine x_bipush 47 dX7_readLine_45 rfl (by decide) ?_
                refine x_iaload 48 dX7_readLine_47 rfl rfl (by omega) (fun g47 => ?_)
                rw [d40]
                refine x_bipush 50 dX7_readLine_48 rfl (by decide) ?_
                refine x_icmp_ne 58 53 dX7_readLine_50 (by decide) rfl (by omega) (fun h50 => ?_) (fun h50 => ?_)
                · refine x_aload_n 59 0 dX7_readLine_58 rfl rfl (by decide) rfl ?_
                  refine x_vv 62 [] (m_step hT (tkE b n p) a10 a8 (by omega)) mX7_step kX7_94 dX7_readLine_59 rfl rfl ⟨by decide, rfl⟩ rfl rfl (Nat.le_of_ble_eq_true rfl) (by decide) (fun M2 q2 => ?_)
                  obtain ⟨hK2, hF2⟩ := q2
                  have hD2 := hD.keep (hF2.2 3 (by omega)) (hF2.1 52 (by omega))
                  have hT2 := hTT.keep (hF2.2 4 (by omega))
                  have hE2 := tkE_le (b := b) (show tkE b n p ≤ n by omega)
                  have hE3 := tkE_le (b := b) (show tkE b n (tkE b n p) ≤ n by omega)
                  have hS2 := tkS_le (b := b) (show tkE b n p ≤ n by omega)
                  have hS3 := tkS_le (b := b) (show tkE b n (tkE b n p) ≤ n by omega)
                  obtain ⟨w11, w12, w10, w8b, w8_⟩ := id hK2
                  refine x_aload_n 63 0 dX7_readLine_62 rfl rfl (by decide) rfl ?_
                  refine x_getI 66 8 8 rfl dX7_readLine_63 rfl fX7_60 rfl rfl (fun g63 => ?_)
                  rw [(w8b hB2).1]
                  refine x_if_le 70 69 dX7_readLine_66 (by decide) rfl (by omega) (fun h66 => ?_) (fun h66 => ?_)
                  · exfalso; omega
                  · refine x_vret dX7_readLine_69 rfl ⟨rfl, Nat.le_refl _⟩ (qv_i ?_)
                    rw [hge]
                    exact ⟨FD.fs hF2, fun _ => w8b hB2, fun q => absurd q (by show ¬ (1 : Int) = 0; omega)⟩
                · exfalso; omega
            · exfalso; omega
          · exfalso; omega
        · have hB2 : tkBb b n (tkE b n p) = false := Bool.eq_false_iff.mpr hB2
          refine x_aload_n 1 0 dX7_readLine_0 rfl rfl (by decide) rfl ?_
          refine x_vp 4 [] (hnm) mX7_nameHere kX7_111 dX7_readLine_1 rfl rfl ⟨by decide, rfl⟩ rfl rfl (Nat.le_of_ble_eq_true rfl) (by decide) ?_
          refine x_istore_n 5 1 _ dX7_readLine_4 rfl rfl (by decide) rfl rfl ?_
          refine x_iload_n 6 1 dX7_readLine_5 rfl rfl (by decide) rfl ?_
          refine x_i2l 7 dX7_readLine_6 rfl (by omega) ?_
          refine x_lconst 8 dX7_readLine_7 rfl 0 rfl ?_
          refine x_ldc2 11 4 qX7_114 dX7_readLine_8 rfl ?_
          refine x_sp 14 [_, _, _] (m_in _ _ _ (by omega) (by omega) (by omega)) mX7_in kX7_53 dX7_readLine_11 rfl rfl rfl (Nat.le_of_ble_eq_true rfl) (by decide) ?_
          refine x_ifne_b 23 17 dX7_readLine_14 (by decide) rfl (fun h14 => ?_) (fun h14 => ?_)
          · refine x_iload_n 24 1 dX7_readLine_23 rfl rfl (by decide) rfl ?_
            refine x_iconst 25 dX7_readLine_24 rfl ?_
            refine x_icmp_gt 36 28 dX7_readLine_25 (by decide) rfl (by omega) (fun h25 => ?_) (fun h25 => ?_)
            · refine x_iload_n 37 1 dX7_readLine_36 rfl rfl (by decide) rfl ?_
              refine x_iconst 38 dX7_readLine_37 rfl ?_
              refine x_icmp_ne 58 41 dX7_readLine_38 (by decide) rfl (by omega) (fun h38 => ?_) (fun h38 => ?_)
              · exfalso; omega
              · refine x_aload_n 42 0 dX7_readLine_41 rfl rfl (by decide) rfl ?_
                refine x_getR 45 2 52 dX7_readLine_42 rfl fX7_13 rfl rfl rfl ?_
                refine x_bipush 47 dX7_readLine_45 rfl (by decide) ?_
                refine x_iaload 48 dX7_readLine_47 rfl rfl (by omega) (fun g47 => ?_)
                rw [d40]
                refine x_bipush 50 dX7_readLine_48 rfl (by decide) ?_
                refine x_icmp_ne 58 53 dX7_readLine_50 (by decide) rfl (by omega) (fun h50 => ?_) (fun h50 => ?_)
                · refine x_aload_n 59 0 dX7_readLine_58 rfl rfl (by decide) rfl ?_
                  refine x_vv 62 [] (m_step hT (tkE b n p) a10 a8 (by omega)) mX7_step kX7_94 dX7_readLine_59 rfl rfl ⟨by decide, rfl⟩ rfl rfl (Nat.le_of_ble_eq_true rfl) (by decide) (fun M2 q2 => ?_)
                  obtain ⟨hK2, hF2⟩ := q2
                  have hD2 := hD.keep (hF2.2 3 (by omega)) (hF2.1 52 (by omega))
                  have hT2 := hTT.keep (hF2.2 4 (by omega))
                  have hE2 := tkE_le (b := b) (show tkE b n p ≤ n by omega)
                  have hE3 := tkE_le (b := b) (show tkE b n (tkE b n p) ≤ n by omega)
                  have hS2 := tkS_le (b := b) (show tkE b n p ≤ n by omega)
                  have hS3 := tkS_le (b := b) (show tkE b n (tkE b n p) ≤ n by omega)
                  obtain ⟨w11, w12, w10, w8b, w8_⟩ := id hK2
                  refine x_aload_n 63 0 dX7_readLine_62 rfl rfl (by decide) rfl ?_
                  refine x_getI 66 8 8 rfl dX7_readLine_63 rfl fX7_60 rfl rfl (fun g63 => ?_)
                  rw [(w8_ hB2).1]
                  refine x_if_le 70 69 dX7_readLine_66 (by decide) rfl (by omega) (fun h66 => ?_) (fun h66 => ?_)
                  · refine x_aload_n 71 0 dX7_readLine_70 rfl rfl (by decide) rfl ?_
                    refine x_iload_n 72 1 dX7_readLine_71 rfl rfl (by decide) rfl ?_
                    refine x_vv 75 [_] (m_readGame (hT.fs hF2) (tkE b n p) hK2 hB2 (by omega) hD2 hT2 (by omega) hvf) mX7_readMore kX7_116 dX7_readLine_72 rfl rfl ⟨by decide, rfl⟩ rfl rfl (Nat.le_of_ble_eq_true rfl) (by decide) (fun M3 q3 => ?_)
                    obtain ⟨hF3, qa, qb⟩ := q3
                    exact tail75 M3 _ _ _ _ _ ((FD.fs hF2).tr hF3) (gmO_b b n (tkE b n p)) qa qb (by omega) hge
                  · exfalso; omega
                · exfalso; omega
            · exfalso; omega
          · exfalso; omega
    · have hlt : lnP b n d p = lnT b n d (lnW b n p) (tkS b n p) (tkE b n p) := by (unfold lnP; rw [if_neg hw1, if_neg hw4])
      by_cases h5 : vn d = 5
      · have hln : lnP b n d p = (5, tkS b n p, 0, d) := by (rw [hlt]; unfold lnT; rw [if_pos (by omega)])
        refine x_aload_n 1 0 dX7_readLine_0 rfl rfl (by decide) rfl ?_
        refine x_vp 4 [] (hnm) mX7_nameHere kX7_111 dX7_readLine_1 rfl rfl ⟨by decide, rfl⟩ rfl rfl (Nat.le_of_ble_eq_true rfl) (by decide) ?_
        refine x_istore_n 5 1 _ dX7_readLine_4 rfl rfl (by decide) rfl rfl ?_
        refine x_iload_n 6 1 dX7_readLine_5 rfl rfl (by decide) rfl ?_
        refine x_i2l 7 dX7_readLine_6 rfl (by omega) ?_
        refine x_lconst 8 dX7_readLine_7 rfl 0 rfl ?_
        refine x_ldc2 11 4 qX7_114 dX7_readLine_8 rfl ?_
        refine x_sp 14 [_, _, _] (m_in _ _ _ (by omega) (by omega) (by omega)) mX7_in kX7_53 dX7_readLine_11 rfl rfl rfl (Nat.le_of_ble_eq_true rfl) (by decide) ?_
        refine x_ifne_b 23 17 dX7_readLine_14 (by decide) rfl (fun h14 => ?_) (fun h14 => ?_)
        · refine x_iload_n 24 1 dX7_readLine_23 rfl rfl (by decide) rfl ?_
          refine x_iconst 25 dX7_readLine_24 rfl ?_
          refine x_icmp_gt 36 28 dX7_readLine_25 (by decide) rfl (by omega) (fun h25 => ?_) (fun h25 => ?_)
          · exfalso; omega
          · refine x_aload_n 29 0 dX7_readLine_28 rfl rfl (by decide) rfl ?_
            refine x_getI 32 3 3 rfl dX7_readLine_29 rfl fX7_104 rfl rfl (fun g29 => ?_)
            rw [d3]
            refine x_iconst 33 dX7_readLine_32 rfl ?_
            refine x_icmp_eq 53 36 dX7_readLine_33 (by decide) rfl (by omega) (fun h33 => ?_) (fun h33 => ?_)
            · refine x_aload_n 54 0 dX7_readLine_53 rfl rfl (by decide) rfl ?_
              refine x_iconst 55 dX7_readLine_54 rfl ?_
              refine x_vv 58 [_] (m_fails 5 (by omega)) mX7_fails kX7_90 dX7_readLine_55 rfl rfl ⟨by decide, rfl⟩ rfl rfl (Nat.le_of_ble_eq_true rfl) (by decide) (fun M5 q5 => ?_)
              rw [if_pos a8] at q5
              have u8 : M5 50 8 = 5 := by (rw [q5, up2_k _ _ _ (by omega), up2_s])
              have u9 : M5 50 9 = tkS b n p := by (rw [q5, up2_s]; exact a11)
              have hF5 : FD M M5 := by (rw [q5]; exact ((FD.rf M).up0 _ _ (by omega)).up0 _ _ (by omega))
              refine x_aload_n 59 0 dX7_readLine_58 rfl rfl (by decide) rfl ?_
              refine x_vv 62 [] (m_stepB (by omega)) mX7_step kX7_94 dX7_readLine_59 rfl rfl ⟨by decide, rfl⟩ rfl rfl (Nat.le_of_ble_eq_true rfl) (by decide) (fun M4 q4 => ?_)
              subst q4
              refine x_aload_n 63 0 dX7_readLine_62 rfl rfl (by decide) rfl ?_
              refine x_getI 66 8 8 rfl dX7_readLine_63 rfl fX7_60 rfl rfl (fun g63 => ?_)
              refine x_if_le 70 69 dX7_readLine_66 (by decide) rfl (by omega) (fun h66 => ?_) (fun h66 => ?_)
              · exfalso; omega
              · refine x_vret dX7_readLine_69 rfl ⟨rfl, Nat.le_refl _⟩ (qv_i ?_)
                rw [hln]
                exact ⟨hF5, fun _ => ⟨u8, u9⟩, fun q => absurd q (by show ¬ (5 : Int) = 0; omega)⟩
            · exfalso; omega
        · exfalso; omega
      · have hvn : 0 ≤ vn d ∧ vn d < 5 := by omega
        have hge := lnT_e (b := b) (n := n) (w := lnW b n p) (s0 := tkS b n p) (p := tkE b n p) hvn.2
        rw [← hlt] at hge
        by_cases hB2 : tkBb b n (tkE b n p) = true
        · have hn1 : numO b n (tkE b n p) 20 = 1 := by (unfold numO; rw [if_pos hB2])
          rw [hn1, if_pos (by omega)] at hge
          refine x_aload_n 1 0 dX7_readLine_0 rfl rfl (by decide) rfl ?_
          refine x_vp 4 [] (hnm) mX7_nameHere kX7_111 dX7_readLine_1 rfl rfl ⟨by decide, rfl⟩ rfl rfl (Nat.le_of_ble_eq_true rfl) (by decide) ?_
          refine x_istore_n 5 1 _ dX7_readLine_4 rfl rfl (by decide) rfl rfl ?_
          refine x_iload_n 6 1 dX7_readLine_5 rfl rfl (by decide) rfl ?_
          refine x_i2l 7 dX7_readLine_6 rfl (by omega) ?_
          refine x_lconst 8 dX7_readLine_7 rfl 0 rfl ?_
          refine x_ldc2 11 4 qX7_114 dX7_readLine_8 rfl ?_
          refine x_sp 14 [_, _, _] (m_in _ _ _ (by omega) (by omega) (by omega)) mX7_in kX7_53 dX7_readLine_11 rfl rfl rfl (Nat.le_of_ble_eq_true rfl) (by decide) ?_
          refine x_ifne_b 23 17 dX7_readLine_14 (by decide) rfl (fun h14 => ?_) (fun h14 => ?_)
          · refine x_iload_n 24 1 dX7_readLine_23 rfl rfl (by decide) rfl ?_
            refine x_iconst 25 dX7_readLine_24 rfl ?_
            refine x_icmp_gt 36 28 dX7_readLine_25 (by decide) rfl (by omega) (fun h25 => ?_) (fun h25 => ?_)
            · exfalso; omega
            · refine x_aload_n 29 0 dX7_readLine_28 rfl rfl (by decide) rfl ?_
              refine x_getI 32 3 3 rfl dX7_readLine_29 rfl fX7_104 rfl rfl (fun g29 => ?_)
              rw [d3]
              refine x_iconst 33 dX7_readLine_32 rfl ?_
              refine x_icmp_eq 53 36 dX7_readLine_33 (by decide) rfl (by omega) (fun h33 => ?_) (fun h33 => ?_)
              · exfalso; omega
              · refine x_iload_n 37 1 dX7_readLine_36 rfl rfl (by decide) rfl ?_
                refine x_iconst 38 dX7_readLine_37 rfl ?_
                refine x_icmp_ne 58 41 dX7_readLine_38 (by decide) rfl (by omega) (fun h38 => ?_) (fun h38 => ?_)
                · refine x_aload_n 59 0 dX7_readLine_58 rfl rfl (by decide) rfl ?_
                  refine x_vv 62 [] (m_step hT (tkE b n p) a10 a8 (by omega)) mX7_step kX7_94 dX7_readLine_59 rfl rfl ⟨by decide, rfl⟩ rfl rfl (Nat.le_of_ble_eq_true rfl) (by decide) (fun M2 q2 => ?_)
                  obtain ⟨hK2, hF2⟩ := q2
                  have hD2 := hD.keep (hF2.2 3 (by omega)) (hF2.1 52 (by omega))
                  have hT2 := hTT.keep (hF2.2 4 (by omega))
                  have hE2 := tkE_le (b := b) (show tkE b n p ≤ n by omega)
                  have hE3 := tkE_le (b := b) (show tkE b n (tkE b n p) ≤ n by omega)
                  have hS2 := tkS_le (b := b) (show tkE b n p ≤ n by omega)
                  have hS3 := tkS_le (b := b) (show tkE b n (tkE b n p) ≤ n by omega)
                  obtain ⟨w11, w12, w10, w8b, w8_⟩ := id hK2
                  refine x_aload_n 63 0 dX7_readLine_62 rfl rfl (by decide) rfl ?_
                  refine x_getI 66 8 8 rfl dX7_readLine_63 rfl fX7_60 rfl rfl (fun g63 => ?_)
                  rw [(w8b hB2).1]
                  refine x_if_le 70 69 dX7_readLine_66 (by decide) rfl (by omega) (fun h66 => ?_) (fun h66 => ?_)
                  · exfalso; omega
                  · refine x_vret dX7_readLine_69 rfl ⟨rfl, Nat.le_refl _⟩ (qv_i ?_)
                    rw [hge]
                    exact ⟨FD.fs hF2, fun _ => w8b hB2, fun q => absurd q (by show ¬ (1 : Int) = 0; omega)⟩
                · exfalso; omega
          · exfalso; omega
        · have hB2 : tkBb b n (tkE b n p) = false := Bool.eq_false_iff.mpr hB2
          refine x_aload_n 1 0 dX7_readLine_0 rfl rfl (by decide) rfl ?_
          refine x_vp 4 [] (hnm) mX7_nameHere kX7_111 dX7_readLine_1 rfl rfl ⟨by decide, rfl⟩ rfl rfl (Nat.le_of_ble_eq_true rfl) (by decide) ?_
          refine x_istore_n 5 1 _ dX7_readLine_4 rfl rfl (by decide) rfl rfl ?_
          refine x_iload_n 6 1 dX7_readLine_5 rfl rfl (by decide) rfl ?_
          refine x_i2l 7 dX7_readLine_6 rfl (by omega) ?_
          refine x_lconst 8 dX7_readLine_7 rfl 0 rfl ?_
          refine x_ldc2 11 4 qX7_114 dX7_readLine_8 rfl ?_
          refine x_sp 14 [_, _, _] (m_in _ _ _ (by omega) (by omega) (by omega)) mX7_in kX7_53 dX7_readLine_11 rfl rfl rfl (Nat.le_of_ble_eq_true rfl) (by decide) ?_
          refine x_ifne_b 23 17 dX7_readLine_14 (by decide) rfl (fun h14 => ?_) (fun h14 => ?_)
          · refine x_iload_n 24 1 dX7_readLine_23 rfl rfl (by decide) rfl ?_
            refine x_iconst 25 dX7_readLine_24 rfl ?_
            refine x_icmp_gt 36 28 dX7_readLine_25 (by decide) rfl (by omega) (fun h25 => ?_) (fun h25 => ?_)
            · exfalso; omega
            · refine x_aload_n 29 0 dX7_readLine_28 rfl rfl (by decide) rfl ?_
              refine x_getI 32 3 3 rfl dX7_readLine_29 rfl fX7_104 rfl rfl (fun g29 => ?_)
              rw [d3]
              refine x_iconst 33 dX7_readLine_32 rfl ?_
              refine x_icmp_eq 53 36 dX7_readLine_33 (by decide) rfl (by omega) (fun h33 => ?_) (fun h33 => ?_)
              · exfalso; omega
              · refine x_iload_n 37 1 dX7_readLine_36 rfl rfl (by decide) rfl ?_
                refine x_iconst 38 dX7_readLine_37 rfl ?_
                refine x_icmp_ne 58 41 dX7_readLine_38 (by decide) rfl (by omega) (fun h38 => ?_) (fun h38 => ?_)
                · refine x_aload_n 59 0 dX7_readLine_58 rfl rfl (by decide) rfl ?_
                  refine x_vv 62 [] (m_step hT (tkE b n p) a10 a8 (by omega)) mX7_step kX7_94 dX7_readLine_59 rfl rfl ⟨by decide, rfl⟩ rfl rfl (Nat.le_of_ble_eq_true rfl) (by decide) (fun M2 q2 => ?_)
                  obtain ⟨hK2, hF2⟩ := q2
                  have hD2 := hD.keep (hF2.2 3 (by omega)) (hF2.1 52 (by omega))
                  have hT2 := hTT.keep (hF2.2 4 (by omega))
                  have hE2 := tkE_le (b := b) (show tkE b n p ≤ n by omega)
                  have hE3 := tkE_le (b := b) (show tkE b n (tkE b n p) ≤ n by omega)
                  have hS2 := tkS_le (b := b) (show tkE b n p ≤ n by omega)
                  have hS3 := tkS_le (b := b) (show tkE b n (tkE b n p) ≤ n by omega)
                  obtain ⟨w11, w12, w10, w8b, w8_⟩ := id hK2
                  refine x_aload_n 63 0 dX7_readLine_62 rfl rfl (by decide) rfl ?_
                  refine x_getI 66 8 8 rfl dX7_readLine_63 rfl fX7_60 rfl rfl (fun g63 => ?_)
                  rw [(w8_ hB2).1]
                  refine x_if_le 70 69 dX7_readLine_66 (by decide) rfl (by omega) (fun h66 => ?_) (fun h66 => ?_)
                  · refine x_aload_n 71 0 dX7_readLine_70 rfl rfl (by decide) rfl ?_
                    refine x_iload_n 72 1 dX7_readLine_71 rfl rfl (by decide) rfl ?_
                    refine x_vv 75 [_] (m_readTown (hT.fs hF2) (tkE b n p) hK2 hB2 (by omega) hD2 hT2 (lnW b n p) (by omega) hvn (by omega)) mX7_readMore kX7_116 dX7_readLine_72 rfl rfl ⟨by decide, rfl⟩ rfl rfl (Nat.le_of_ble_eq_true rfl) (by decide) (fun M3 q3 => ?_)
                    obtain ⟨hF3, qa, qb⟩ := q3
                    exact tail75 M3 _ _ _ _ _ ((FD.fs hF2).tr hF3) (numO_b b n (tkE b n p) 20) qa qb (by omega) hge
                  · exfalso; omega
                · exfalso; omega
          · exfalso; omega

theorem mdl_txt {M M2 : Mem} {sa : ST} {v x y : LV} {w l : Int → Int} (h : Mdl M sa) (eA : ∀ a, a ≠ 50 → a ≠ 51 → a ≠ 59 → M2 a = M a) (eK : ∀ k : Int, k ≠ 1 → k ≠ 22 → M2 50 k = M 50 k) (hR : RP M2 0 v) (h22 : M2 50 22 = 0) (h59 : M2 59 0 = 0 ∧ M2 59 1 = 0) : Mdl M2 (uS (uK (uV sa v) 0 0 x y) 0 w l) := by
  obtain ⟨h1, -, h6, h7, h8, h9, h10, h11, h12⟩ := h
  refine ⟨hR, ⟨h59.1, h59.2, fun q => ?_, fun q => ?_⟩, ?_, ⟨h22, fun i a b => ?_⟩, fun k hk => ?_, ?_, ?_, ?_, h12.keep (eA 54 (by omega) (by omega) (by omega)) (eA 55 (by omega) (by omega) (by omega))⟩
  · have q : (0 : Int) = 1 := q
    omega
  · have q : (0 : Int) = 1 := q
    omega
  · rw [eK 6 (by omega) (by omega), eA 53 (by omega) (by omega) (by omega)]; exact h6
  · have b : i < 0 := b
    omega
  · rw [eA 60 (by omega) (by omega) (by omega), eA 61 (by omega) (by omega) (by omega), eA 62 (by omega) (by omega) (by omega)]; exact h8 k hk
  · rw [eK 28 (by omega) (by omega)]; exact h9
  · rw [eK 7 (by omega) (by omega)]; exact h10
  · rw [eK 19 (by omega) (by omega)]; exact h11
theorem RP_draft {M M2 : Mem} {d : LV} {k : Int} (h : RD M d) (hD : DI d k) (h1 : M2 50 1 = vn d) (h2 : ∀ z, 0 ≤ z → z < 42 → M2 51 z = M 52 z) : RP M2 0 d := by
  obtain ⟨a1, a2, a3, a4, a5, a6⟩ := h
  obtain ⟨d1, d2, d3, d4, d5, d6⟩ := hD
  refine ⟨⟨d1.2, d2.2⟩, h1, (h2 40 (by omega) (by omega)).trans a2, ((h2 41 (by omega) (by omega)).trans a6).trans d4.symm, fun t a b => ?_, fun i a b => ?_⟩
  · obtain ⟨b1, b2⟩ := a3 t a b
    obtain ⟨c1, c2, c3, c4⟩ := d5 t a b
    refine ⟨?_, ?_, ?_, ?_⟩
    · rw [h2 (0 + t) (by omega) (by omega), show (0 : Int) + t = t by omega]; exact b1
    · rw [h2 (0 + 5 + t) (by omega) (by omega), show (0 : Int) + 5 + t = 5 + t by omega]; exact b2
    · rw [h2 (0 + 10 + t) (by omega) (by omega), c3]; exact a5 _ (by omega) (by omega)
    · rw [h2 (0 + 15 + t) (by omega) (by omega), c4]; exact a5 _ (by omega) (by omega)
  · obtain ⟨b1, b2⟩ := a4 i a b
    refine ⟨?_, ?_⟩
    · rw [h2 (0 + 20 + i) (by omega) (by omega), show (0 : Int) + 20 + i = 20 + i by omega]; exact b1
    · rw [h2 (0 + 30 + i) (by omega) (by omega), show (0 : Int) + 30 + i = 30 + i by omega]; exact b2
theorem prs_s (b : Int → Int) (n : Int) (f : Nat) (q : Int) (d : LV) (k : Int) : prs b n (f + 1) q d k = if tkBb b n q then (1, tkS b n q, k, d) else if tkK b n q = 0 then (if lackB d then (6, tkS b n q, k, d) else (0, 0, k, d)) else if (lnP b n d q).1 ≠ 0 then ((lnP b n d q).1, (lnP b n d q).2.1, k, d) else prs b n f (lnP b n d q).2.2.1 (lnP b n d q).2.2.2 (k + 1) := rfl

theorem lnP_pos {b : Int → Int} {n p : Int} {d : LV} (h : (lnP b n d p).1 ≠ 0) : 0 < (lnP b n d p).1 := by
  have h1 := numO_b b n (tkE b n p) 20
  have h2 := sgnO_b b n (tkE b n (tkE b n p))
  have h3 := numO_b b n (tkE b n p) 4
  have h4 := numO_b b n (tkE b n (tkE b n p)) 4
  have h5 := sgnO_b b n (tkE b n (tkE b n (tkE b n p)))
  have key : 0 ≤ (lnP b n d p).1 := by
    unfold lnP
    split
    · show (0 : Int) ≤ 2; omega
    · split
      · unfold lnG
        repeat' split
        · show (0 : Int) ≤ 5; omega
        · exact h3.1
        · exact h4.1
        · show (0 : Int) ≤ 3; omega
        · exact h5.1
        · show (0 : Int) ≤ 0; omega
      · unfold lnT
        repeat' split
        · show (0 : Int) ≤ 5; omega
        · exact h1.1
        · exact h2.1
        · show (0 : Int) ≤ 0; omega
  omega

set_option maxHeartbeats 4000000 in
theorem r_text {g : GG} {M : Mem} {s : ST} (hC : Mdl M s) (hO : SOK s) : CI g tX7_text 6 [rv g 50] M (PM M (aText s) (nText s)) := by
  refine Con.of [some (rv g 50), none, none] (by decide +kernel) rfl (Nat.le_of_ble_eq_true rfl) ?_
  obtain ⟨hV, ⟨hk0, hk1, hi0, hi1⟩, ⟨hT1, hT2⟩, ⟨hS1, hS2⟩, hZ, hN, hF, hKs, hMC⟩ := id hC
  obtain ⟨oV, oW, oI0, oI1, oT, oTb, oS, oSb, oZ⟩ := id hO
  have e1 : M 50 1 = vn (sV s) := hV.2.1
  have e40 : M 51 40 = vf (sV s) := hV.F (by omega)
  have e41 : M 51 41 = vw (sV s) := hV.W (by omega)
  have o1 := oV.1
  have o2 := oV.2.1
  have o3 := oV.2.2.1
  have hTQ : TQ M (tl s) (tb s) := ⟨hT1, oT, fun i x y => ⟨hT2 i x y, (oTb i x y).1, (oTb i x y).2⟩, hMC⟩
  have tail95B : ∀ (M5 : Mem) (c pl l : Int) (j2 : Option Value), 0 < c → M5 50 8 = c → M5 50 9 = pl → SM M M5 → (txt s).1 = c → (txt s).2.1 = pl → X g tX7_text (kk0 6) 95 [some (rv g 50), some (iv l), j2] [] (S0, R0, M5) (QI (PM M (aText s) (nText s))) := by
    intro M5 c pl l j2 hc u8 u9 hSM t1 t2
    refine x_rng (fun hrg => ?_)
    have r8 := hrg 50 8
    refine x_aload_n 96 0 dX7_text_95 rfl rfl (by decide) rfl ?_
    refine x_iconst 97 dX7_text_96 rfl ?_
    refine x_putI 100 6 6 rfl dX7_text_97 rfl fX7_57 rfl rfl rfl (by omega) ?_
    refine x_aload_n 101 0 dX7_text_100 rfl rfl (by decide) rfl ?_
    refine x_aload_n 102 0 dX7_text_101 rfl rfl (by decide) rfl ?_
    refine x_getI 105 8 8 rfl dX7_text_102 rfl fX7_60 rfl rfl (fun g102 => ?_)
    rw [up2_k _ _ _ (by omega)]
    refine x_putI 108 7 7 rfl dX7_text_105 rfl fX7_122 rfl rfl rfl (by omega) ?_
    refine x_aload_n 109 0 dX7_text_108 rfl rfl (by decide) rfl ?_
    refine x_getI 112 8 8 rfl dX7_text_109 rfl fX7_60 rfl rfl (fun g109 => ?_)
    rw [up2_k _ _ _ (by omega), up2_k _ _ _ (by omega), u8]
    refine x_if_le 123 115 dX7_text_112 (by decide) rfl (by omega) (fun h112 => ?_) (fun h112 => ?_)
    · exfalso; omega
    · refine x_bipush 117 dX7_text_115 rfl (by decide) ?_
      refine x_aload_n 118 0 dX7_text_117 rfl rfl (by decide) rfl ?_
      refine x_getI 121 9 9 rfl dX7_text_118 rfl fX7_66 rfl rfl (fun g118 => ?_)
      rw [up2_k _ _ _ (by omega), up2_k _ _ _ (by omega), u9]
      refine x_isub 122 dX7_text_121 rfl ?_
      refine x_iret dX7_text_122 rfl ⟨rfl, Nat.le_refl _⟩ (qi_i ?_)
      have y1 : aText s = -10 - pl := by (unfold aText; rw [if_neg (by omega), t2])
      have y2 : nText s = uF (uT s 0 (tb s)) c := by (unfold nText; rw [if_neg (by omega), t1])
      rw [y1, y2]
      refine ⟨rfl, mdl_uF (mdl_uT (hC.keep hSM) 0 (tb s) (M2 := up2 M5 50 6 0) (fun a h1 h2 => up2_o _ _ _ h1) (fun k hk => up2_k _ _ _ hk) ⟨up2_s _ _ _ _, fun i a b => by omega⟩) c (fun a h1 => up2_o _ _ _ h1) (fun k hk => up2_k _ _ _ hk) (up2_s _ _ _ _), fun a ha => ?_⟩
      rw [up2_o _ _ _ (by omega), up2_o _ _ _ (by omega)]; exact hSM.1 a (by omega) (by omega) (by omega) (by omega) (by omega)
  have tail95 : ∀ (M5 : Mem) (d : LV) (k : Int) (j2 : Option Value), M5 50 8 = 0 → SM M M5 → RD M5 d → DI d k → txt s = (0, 0, k, d) → X g tX7_text (kk0 6) 95 [some (rv g 50), some (iv k), j2] [] (S0, R0, M5) (QI (PM M (aText s) (nText s))) := by
    intro M5 d k j2 u8 hSM hD hDI ht
    have dd := hDI
    obtain ⟨g1, g2, g3, -⟩ := dd
    have d3 := hD.1
    have y1 : aText s = k := by (unfold aText; rw [ht, if_pos rfl])
    have y2 : nText s = uS (uK (uV (uF (uT s 0 (tb s)) 0) d) 0 0 (i0 s) (i1 s)) 0 (sw s) (sl s) := by (unfold nText; rw [ht, if_pos rfl])
    rw [y1, y2]
    have hMa : Mdl (up2 (up2 M5 50 6 0) 50 7 0) (uF (uT s 0 (tb s)) 0) := mdl_uF (mdl_uT (hC.keep hSM) 0 (tb s) (M2 := up2 M5 50 6 0) (fun a h1 h2 => up2_o _ _ _ h1) (fun k hk => up2_k _ _ _ hk) ⟨up2_s _ _ _ _, fun i a b => by omega⟩) 0 (fun a h1 => up2_o _ _ _ h1) (fun k hk => up2_k _ _ _ hk) (up2_s _ _ _ _)
    have cp : ∀ (m i : Nat) (M6 : Mem), 42 - i < m → i ≤ 42 → (∀ a, a ≠ 51 → M6 a = up2 (up2 M5 50 6 0) 50 7 0 a) → (∀ z : Int, 0 ≤ z → z < (i : Int) → M6 51 z = M5 52 z) → X g tX7_text (kk0 6) 125 [some (rv g 50), some (iv k), some (iv i)] [] (S0, R0, M6) (QI (PM M k (uS (uK (uV (uF (uT s 0 (tb s)) 0) d) 0 0 (i0 s) (i1 s)) 0 (sw s) (sl s)))) := by
      intro m
      induction m with
      | zero => intro i M6 k1 k2; omega
      | succ m ih =>
        intro i M6 k1 k2 c1 c2
        have c52 : M6 52 = M5 52 := by (rw [c1 52 (by omega), up2_o _ _ _ (by omega), up2_o _ _ _ (by omega)])
        have c3 : M6 50 3 = vn d := by (rw [c1 50 (by omega), up2_k _ _ _ (by omega), up2_k _ _ _ (by omega)]; exact d3)
        refine x_iload_n 126 2 dX7_text_125 rfl rfl (by decide) rfl ?_
        refine x_bipush 128 dX7_text_126 rfl (by decide) ?_
        refine x_icmp_ge 149 131 dX7_text_128 (by decide) rfl (by omega) (fun h128 => ?_) (fun h128 => ?_)
        · refine x_aload_n 150 0 dX7_text_149 rfl rfl (by decide) rfl ?_
          refine x_aload_n 151 0 dX7_text_150 rfl rfl (by decide) rfl ?_
          refine x_getI 154 3 3 rfl dX7_text_151 rfl fX7_104 rfl rfl (fun g151 => ?_)
          rw [c3]
          refine x_putI 157 1 1 rfl dX7_text_154 rfl fX7_125 rfl rfl rfl (by omega) ?_
          refine x_aload_n 158 0 dX7_text_157 rfl rfl (by decide) rfl ?_
          refine x_iconst 159 dX7_text_158 rfl ?_
          refine x_putI 162 22 22 rfl dX7_text_159 rfl fX7_128 rfl rfl rfl (by omega) ?_
          refine x_aload_n 163 0 dX7_text_162 rfl rfl (by decide) rfl ?_
          refine x_getR 166 24 59 dX7_text_163 rfl fX7_38 rfl rfl rfl ?_
          refine x_iconst 167 dX7_text_166 rfl ?_
          refine x_iconst 168 dX7_text_167 rfl ?_
          refine x_zastore 169 dX7_text_168 rfl rfl (by omega) (by omega) (by rfl) ?_
          refine x_aload_n 170 0 dX7_text_169 rfl rfl (by decide) rfl ?_
          refine x_getR 173 24 59 dX7_text_170 rfl fX7_38 rfl rfl rfl ?_
          refine x_iconst 174 dX7_text_173 rfl ?_
          refine x_iconst 175 dX7_text_174 rfl ?_
          refine x_zastore 176 dX7_text_175 rfl rfl (by omega) (by omega) (by rfl) ?_
          refine x_iload_n 177 1 dX7_text_176 rfl rfl (by decide) rfl ?_
          refine x_iret dX7_text_177 rfl ⟨rfl, Nat.le_refl _⟩ (qi_i ?_)
          refine ⟨rfl, mdl_txt hMa (fun a h1 h2 h3 => ?_) (fun k h1 h2 => ?_) (RP_draft hD hDI ?_ (fun z h1 h2 => ?_)) ?_ ⟨?_, ?_⟩, fun a ha => ?_⟩
          · rw [up2_o _ _ _ h3, up2_o _ _ _ h3, up2_o _ _ _ h1, up2_o _ _ _ h1]; exact c1 a h2
          · rw [up2_o _ _ _ (by omega), up2_o _ _ _ (by omega), up2_k _ _ _ h2, up2_k _ _ _ h1, c1 50 (by omega)]
          · rw [up2_o _ _ _ (by omega), up2_o _ _ _ (by omega), up2_k _ _ _ (by omega), up2_s]
          · rw [up2_o _ _ _ (by omega), up2_o _ _ _ (by omega), up2_o _ _ _ (by omega), up2_o _ _ _ (by omega)]; exact c2 z h1 (by omega)
          · rw [up2_o _ _ _ (by omega), up2_o _ _ _ (by omega), up2_s]
          · rw [up2_k _ _ _ (by omega), up2_s]
          · rw [up2_s]
          · rw [up2_o _ _ _ (by omega), up2_o _ _ _ (by omega), up2_o _ _ _ (by omega), up2_o _ _ _ (by omega), c1 a (by omega), up2_o _ _ _ (by omega), up2_o _ _ _ (by omega)]; exact hSM.1 a (by omega) (by omega) (by omega) (by omega) (by omega)
        · refine x_aload_n 132 0 dX7_text_131 rfl rfl (by decide) rfl ?_
          refine x_getR 135 0 51 dX7_text_132 rfl fX7_7 rfl rfl rfl ?_
          refine x_iload_n 136 2 dX7_text_135 rfl rfl (by decide) rfl ?_
          refine x_aload_n 137 0 dX7_text_136 rfl rfl (by decide) rfl ?_
          refine x_getR 140 2 52 dX7_text_137 rfl fX7_13 rfl rfl rfl ?_
          refine x_iload_n 141 2 dX7_text_140 rfl rfl (by decide) rfl ?_
          refine x_iaload 142 dX7_text_141 rfl rfl (by omega) (fun g141 => ?_)
          refine x_iastore 143 dX7_text_142 rfl rfl (by omega) (by omega) ?_
          refine x_iinc 146 _ dX7_text_143 rfl (by decide) rfl rfl rfl ?_
          refine x_goto 125 dX7_text_146 (by decide) ?_
          refine ih (i + 1) _ (by omega) (by omega) (fun a ha => ?_) (fun z h1 h2 => ?_)
          · rw [up2_o _ _ _ ha]; exact c1 a ha
          · rw [up2_i]
            by_cases e : z = i
            · rw [if_pos e, e, c52]
            · rw [if_neg e]; exact c2 z h1 (by omega)
    refine x_aload_n 96 0 dX7_text_95 rfl rfl (by decide) rfl ?_
    refine x_iconst 97 dX7_text_96 rfl ?_
    refine x_putI 100 6 6 rfl dX7_text_97 rfl fX7_57 rfl rfl rfl (by omega) ?_
    refine x_aload_n 101 0 dX7_text_100 rfl rfl (by decide) rfl ?_
    refine x_aload_n 102 0 dX7_text_101 rfl rfl (by decide) rfl ?_
    refine x_getI 105 8 8 rfl dX7_text_102 rfl fX7_60 rfl rfl (fun g102 => ?_)
    rw [up2_k _ _ _ (by omega), u8]
    refine x_putI 108 7 7 rfl dX7_text_105 rfl fX7_122 rfl rfl rfl (by omega) ?_
    refine x_aload_n 109 0 dX7_text_108 rfl rfl (by decide) rfl ?_
    refine x_getI 112 8 8 rfl dX7_text_109 rfl fX7_60 rfl rfl (fun g109 => ?_)
    rw [up2_k _ _ _ (by omega), up2_k _ _ _ (by omega), u8]
    refine x_if_le 123 115 dX7_text_112 (by decide) rfl (by omega) (fun h112 => ?_) (fun h112 => ?_)
    · refine x_iconst 124 dX7_text_123 rfl ?_
      refine x_istore_n 125 2 _ dX7_text_124 rfl rfl (by decide) rfl rfl ?_
      exact cp 43 0 _ (by omega) (by omega) (fun _ _ => rfl) (fun z h1 h2 => by omega)
    · exfalso; omega
  have exitB : ∀ (M5 : Mem) (c pl l : Int) (j2 : Option Value), 0 < c → M5 50 8 = c → M5 50 9 = pl → SM M M5 → (txt s).1 = c → (txt s).2.1 = pl → X g tX7_text (kk0 6) 47 [some (rv g 50), some (iv l), j2] [] (S0, R0, M5) (QI (PM M (aText s) (nText s))) := by
    intro M5 c pl l j2 hc u8 u9 hSM t1 t2
    refine x_aload_n 48 0 dX7_text_47 rfl rfl (by decide) rfl ?_
    refine x_getI 51 8 8 rfl dX7_text_48 rfl fX7_60 rfl rfl (fun g48 => ?_)
    refine x_if_ne 71 54 dX7_text_51 (by decide) rfl (by omega) (fun h51 => ?_) (fun h51 => ?_)
    · refine x_aload_n 72 0 dX7_text_71 rfl rfl (by decide) rfl ?_
      refine x_getI 75 8 8 rfl dX7_text_72 rfl fX7_60 rfl rfl (fun g72 => ?_)
      refine x_if_ne 95 78 dX7_text_75 (by decide) rfl (by omega) (fun h75 => ?_) (fun h75 => ?_)
      · exact tail95B M5 c pl l j2 hc u8 u9 hSM t1 t2
      · exfalso; omega
    · exfalso; omega
  have lines : ∀ (f : Nat) (p : Int) (d : LV) (k : Int) (M4 : Mem) (j2 : Option Value), f + k = 16 → 0 ≤ k → (0 ≤ p ∧ p ≤ tl s) → SM M M4 → TQ M4 (tl s) (tb s) → TKS (tb s) (tl s) p M4 → RD M4 d → TT M4 d → DI d k → prs (tb s) (tl s) f p d k = txt s → X g tX7_text (kk0 6) 47 [some (rv g 50), some (iv k), j2] [] (S0, R0, M4) (QI (PM M (aText s) (nText s))) := by
    intro f
    induction f with
    | zero =>
      intro p d k M4 j2 hfk hk0 hp hSM hT4 hK hD hTT hDI hpr
      obtain ⟨g1, g2, g3, -⟩ := hDI
      omega
    | succ f ih =>
      intro p d k M4 j2 hfk hk0 hp hSM hT4 hK hD hTT hDI hpr
      rw [prs_s] at hpr
      have dd := hDI
      obtain ⟨g1, g2, g3, -⟩ := dd
      obtain ⟨a11, a12, a10, a8b, a8_⟩ := id hK
      have kb := tkK_b (tb s) (tl s) p
      have t4 := hTT.1
      have d3 := hD.1
      by_cases hB : tkBb (tb s) (tl s) p = true
      · rw [if_pos hB] at hpr
        obtain ⟨u8, u9⟩ := a8b hB
        exact exitB M4 1 (tkS (tb s) (tl s) p) k j2 (by omega) u8 u9 hSM (by rw [← hpr]) (by rw [← hpr])
      · have hB2 : tkBb (tb s) (tl s) p = false := Bool.eq_false_iff.mpr hB
        rw [if_neg hB] at hpr
        obtain ⟨u8, u13⟩ := a8_ hB2
        by_cases h0 : tkK (tb s) (tl s) p = 0
        · rw [if_pos h0] at hpr
          have hlt := lack_top hTT hDI
          refine x_aload_n 48 0 dX7_text_47 rfl rfl (by decide) rfl ?_
          refine x_getI 51 8 8 rfl dX7_text_48 rfl fX7_60 rfl rfl (fun g48 => ?_)
          rw [u8]
          refine x_if_ne 71 54 dX7_text_51 (by decide) rfl (by omega) (fun h51 => ?_) (fun h51 => ?_)
          · exfalso; omega
          · refine x_aload_n 55 0 dX7_text_54 rfl rfl (by decide) rfl ?_
            refine x_getI 58 12 12 rfl dX7_text_55 rfl fX7_69 rfl rfl (fun g55 => ?_)
            rw [a12]
            refine x_if_eq 71 61 dX7_text_58 (by decide) rfl (by omega) (fun h58 => ?_) (fun h58 => ?_)
            · refine x_aload_n 72 0 dX7_text_71 rfl rfl (by decide) rfl ?_
              refine x_getI 75 8 8 rfl dX7_text_72 rfl fX7_60 rfl rfl (fun g72 => ?_)
              rw [u8]
              refine x_if_ne 95 78 dX7_text_75 (by decide) rfl (by omega) (fun h75 => ?_) (fun h75 => ?_)
              · exfalso; omega
              · refine x_aload_n 79 0 dX7_text_78 rfl rfl (by decide) rfl ?_
                refine x_getI 82 4 4 rfl dX7_text_79 rfl fX7_101 rfl rfl (fun g79 => ?_)
                refine x_aload_n 83 0 dX7_text_82 rfl rfl (by decide) rfl ?_
                refine x_getI 86 3 3 rfl dX7_text_83 rfl fX7_104 rfl rfl (fun g83 => ?_)
                rw [d3]
                refine x_icmp_lt 95 89 dX7_text_86 (by decide) rfl (by omega) (fun h86 => ?_) (fun h86 => ?_)
                · first
                    | (rw [if_pos (hlt.mpr (by omega))] at hpr
                       exact tail95B M5 6 (tkS (tb s) (tl s) p) k j2 (by omega) v8 v9 hS5 (by rw [← hpr]) (by rw [← hpr]))
                    | (rw [if_neg (fun q => by have := hlt.mp q; omega)] at hpr
                       exact tail95 M4 d k j2 u8 hSM hD hDI hpr.symm)
                · refine x_aload_n 90 0 dX7_text_89 rfl rfl (by decide) rfl ?_
                  refine x_bipush 92 dX7_text_90 rfl (by decide) ?_
                  refine x_vv 95 [_] (m_fails 6 (by omega)) mX7_fails kX7_90 dX7_text_92 rfl rfl ⟨by decide, rfl⟩ rfl rfl (Nat.le_of_ble_eq_true rfl) (by decide) (fun M5 q5 => ?_)
                  rw [if_pos u8] at q5
                  have v8 : M5 50 8 = 6 := by (rw [q5, up2_k _ _ _ (by omega), up2_s])
                  have v9 : M5 50 9 = tkS (tb s) (tl s) p := by (rw [q5, up2_s]; exact a11)
                  have hS5 : SM M M5 := by (rw [q5]; exact (hSM.up0 _ _ (by omega)).up0 _ _ (by omega))
                  first
                    | (rw [if_pos (hlt.mpr (by omega))] at hpr
                       exact tail95B M5 6 (tkS (tb s) (tl s) p) k j2 (by omega) v8 v9 hS5 (by rw [← hpr]) (by rw [← hpr]))
                    | (rw [if_neg (fun q => by have := hlt.mp q; omega)] at hpr
                       exact tail95 M4 d k j2 u8 hSM hD hDI hpr.symm)
            · exfalso; omega
        · rw [if_neg h0] at hpr
          refine x_aload_n 48 0 dX7_text_47 rfl rfl (by decide) rfl ?_
          refine x_getI 51 8 8 rfl dX7_text_48 rfl fX7_60 rfl rfl (fun g48 => ?_)
          rw [u8]
          refine x_if_ne 71 54 dX7_text_51 (by decide) rfl (by omega) (fun h51 => ?_) (fun h51 => ?_)
          · exfalso; omega
          · refine x_aload_n 55 0 dX7_text_54 rfl rfl (by decide) rfl ?_
            refine x_getI 58 12 12 rfl dX7_text_55 rfl fX7_69 rfl rfl (fun g55 => ?_)
            rw [a12]
            refine x_if_eq 71 61 dX7_text_58 (by decide) rfl (by omega) (fun h58 => ?_) (fun h58 => ?_)
            · exfalso; omega
            · refine x_aload_n 62 0 dX7_text_61 rfl rfl (by decide) rfl ?_
              refine x_vv 65 [] (m_readLine hT4 p hK hB2 hp hD hTT g1 g2) mX7_readLine kX7_119 dX7_text_62 rfl rfl ⟨by decide, rfl⟩ rfl rfl (Nat.le_of_ble_eq_true rfl) (by decide) (fun M5 q5 => ?_)
              obtain ⟨hF5, qa, qb⟩ := q5
              have hS5 := hSM.tr hF5.sm
              refine x_iinc 68 _ dX7_text_65 rfl (by decide) rfl rfl rfl ?_
              refine x_goto 47 dX7_text_68 (by decide) ?_
              by_cases hz : (lnP (tb s) (tl s) d p).1 = 0
              · rw [if_neg (Decidable.not_not.mpr hz)] at hpr
                obtain ⟨hK5, hD5, hT5⟩ := qb hz
                have ok := lnP_ok hp hDI hz
                exact ih _ _ (k + 1) M5 j2 (by omega) (by omega) ok.2 hS5 (hT4.fl hF5) hK5 hD5 hT5 ok.1 hpr
              · rw [if_pos hz] at hpr
                obtain ⟨v8, v9⟩ := qa hz
                have hpos : 0 < (lnP (tb s) (tl s) d p).1 := lnP_pos hz
                exact exitB M5 _ _ _ j2 hpos v8 v9 hS5 (by rw [← hpr]) (by rw [← hpr])
  have zero : ∀ (m i : Nat) (M2 : Mem), 42 - i < m → i ≤ 42 → (∀ a, a ≠ 52 → M2 a = up2 (up2 (up2 (up2 M 50 8 0) 50 10 0) 50 3 0) 50 4 (-1) a) → (∀ z : Int, 0 ≤ z → z < (i : Int) → M2 52 z = 0) → X g tX7_text (kk0 6) 24 [some (rv g 50), some (iv 0), some (iv i)] [] (S0, R0, M2) (QI (PM M (aText s) (nText s))) := by
    intro m
    induction m with
    | zero => intro i M2 k1 k2; omega
    | succ m ih =>
      intro i M2 k1 k2 c1 c2
      refine x_iload_n 25 2 dX7_text_24 rfl rfl (by decide) rfl ?_
      refine x_bipush 27 dX7_text_25 rfl (by decide) ?_
      refine x_icmp_ge 43 30 dX7_text_27 (by decide) rfl (by omega) (fun h27 => ?_) (fun h27 => ?_)
      · have z50 : ∀ k, M2 50 k = up2 (up2 (up2 (up2 M 50 8 0) 50 10 0) 50 3 0) 50 4 (-1) 50 k := fun k => by rw [c1 50 (by omega)]
        have z8 : M2 50 8 = 0 := by (rw [z50, up2_k _ _ _ (by omega), up2_k _ _ _ (by omega), up2_k _ _ _ (by omega), up2_s])
        have z10 : M2 50 10 = 0 := by (rw [z50, up2_k _ _ _ (by omega), up2_k _ _ _ (by omega), up2_s])
        have z3 : M2 50 3 = 0 := by (rw [z50, up2_k _ _ _ (by omega), up2_s])
        have z4 : M2 50 4 = -1 := by (rw [z50, up2_s])
        have hFz : FD M M2 := ⟨fun a h1 h2 => by rw [c1 a h2, up2_o _ _ _ h1, up2_o _ _ _ h1, up2_o _ _ _ h1, up2_o _ _ _ h1], fun k hk => by rw [z50, up2_k _ _ _ (by omega), up2_k _ _ _ (by omega), up2_k _ _ _ (by omega), up2_k _ _ _ (by omega)]⟩
        have hTz := hTQ.fl hFz
        refine x_aload_n 44 0 dX7_text_43 rfl rfl (by decide) rfl ?_
        refine x_vv 47 [] (m_step hTz 0 z10 z8 (by omega)) mX7_step kX7_94 dX7_text_44 rfl rfl ⟨by decide, rfl⟩ rfl rfl (Nat.le_of_ble_eq_true rfl) (by decide) (fun M3 q3 => ?_)
        obtain ⟨hK3, hF3⟩ := q3
        have f52 : M3 52 = M2 52 := hF3.1 52 (by omega)
        have z0 : ∀ z, 0 ≤ z → z < 42 → M3 52 z = 0 := fun z h1 h2 => by rw [f52]; exact c2 z h1 (by omega)
        refine lines 16 0 LV0 0 M3 _ (by omega) (by omega) (by omega) (hFz.tr (FD.fs hF3)).sm (hTz.fs hF3) hK3 ⟨(hF3.2 3 (by omega)).trans z3, z0 40 (by omega) (by omega), fun t a b => ?_, fun t a b => ?_, fun z a b => z0 z (by omega) (by omega), z0 41 (by omega) (by omega)⟩ ⟨?_, fun t a b => ?_, Or.inl ?_⟩ DI_0 rfl
        · have b : t < 0 := b
          omega
        · have b : t < 0 := b
          omega
        · rw [hF3.2 4 (by omega), z4]; omega
        · have b : t < 0 := b
          omega
        · rw [hF3.2 4 (by omega), z4]
      · refine x_aload_n 31 0 dX7_text_30 rfl rfl (by decide) rfl ?_
        refine x_getR 34 2 52 dX7_text_31 rfl fX7_13 rfl rfl rfl ?_
        refine x_iload_n 35 2 dX7_text_34 rfl rfl (by decide) rfl ?_
        refine x_iconst 36 dX7_text_35 rfl ?_
        refine x_iastore 37 dX7_text_36 rfl rfl (by omega) (by omega) ?_
        refine x_iinc 40 _ dX7_text_37 rfl (by decide) rfl rfl rfl ?_
        refine x_goto 24 dX7_text_40 (by decide) ?_
        refine ih (i + 1) _ (by omega) (by omega) (fun a ha => ?_) (fun z h1 h2 => ?_)
        · rw [up2_o _ _ _ ha]; exact c1 a ha
        · rw [up2_i]
          by_cases e : z = i
          · rw [if_pos e]
          · rw [if_neg e]; exact c2 z h1 (by omega)
  refine x_aload_n 1 0 dX7_text_0 rfl rfl (by decide) rfl ?_
  refine x_iconst 2 dX7_text_1 rfl ?_
  refine x_putI 5 8 8 rfl dX7_text_2 rfl fX7_60 rfl rfl rfl (by omega) ?_
  refine x_aload_n 6 0 dX7_text_5 rfl rfl (by decide) rfl ?_
  refine x_iconst 7 dX7_text_6 rfl ?_
  refine x_putI 10 10 10 rfl dX7_text_7 rfl fX7_72 rfl rfl rfl (by omega) ?_
  refine x_aload_n 11 0 dX7_text_10 rfl rfl (by decide) rfl ?_
  refine x_iconst 12 dX7_text_11 rfl ?_
  refine x_putI 15 3 3 rfl dX7_text_12 rfl fX7_104 rfl rfl rfl (by omega) ?_
  refine x_aload_n 16 0 dX7_text_15 rfl rfl (by decide) rfl ?_
  refine x_iconst 17 dX7_text_16 rfl ?_
  refine x_putI 20 4 4 rfl dX7_text_17 rfl fX7_101 rfl rfl rfl (by omega) ?_
  refine x_iconst 21 dX7_text_20 rfl ?_
  refine x_istore_n 22 1 _ dX7_text_21 rfl rfl (by decide) rfl rfl ?_
  refine x_iconst 23 dX7_text_22 rfl ?_
  refine x_istore_n 24 2 _ dX7_text_23 rfl rfl (by decide) rfl rfl ?_
  exact zero 43 0 _ (by omega) (by omega) (fun _ _ => rfl) (fun z h1 h2 => by omega)
