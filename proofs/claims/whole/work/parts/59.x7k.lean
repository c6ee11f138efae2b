/-- page 0 and what lies from 126 on may have changed -/
def FR (M M2 : Mem) : Prop := (∀ a, a ≠ 50 → a ≠ 51 → M2 a = M a) ∧ (∀ k, k ≠ 16 → k ≠ 17 → k ≠ 18 → M2 50 k = M 50 k) ∧ (∀ k, 42 ≤ k → k < 126 → M2 51 k = M 51 k)
theorem FR.tr {M M2 M3 : Mem} (h : FR M M2) (h2 : FR M2 M3) : FR M M3 := ⟨fun a x y => (h2.1 a x y).trans (h.1 a x y), fun k x y z => (h2.2.1 k x y z).trans (h.2.1 k x y z), fun k x y => (h2.2.2 k x y).trans (h.2.2 k x y)⟩
theorem FR.of {M M2 : Mem} {p : Int} (h : FP p M M2) (hp : p = 0 ∨ 126 ≤ p) : FR M M2 := ⟨h.1, h.2.1, fun k h1 h2 => h.2.2 k (by omega)⟩
theorem mdl_uR {M M2 : Mem} {s : ST} {v : LV} (h : Mdl M s) (hR : RP M2 0 v) (hF : FR M M2) : Mdl M2 (uV s v) := by
  obtain ⟨h1, ⟨h2, h3, h4, h5⟩, h6, h7, h8, h9, h10, h11, h12⟩ := h
  have e (a : Nat) (h : a ≠ 50 ∧ a ≠ 51) : M2 a = M a := hF.1 a h.1 h.2
  have e5 (k : Int) (h : k ≠ 16 ∧ k ≠ 17 ∧ k ≠ 18) : M2 50 k = M 50 k := hF.2.1 k h.1 h.2.1 h.2.2
  refine ⟨hR, ⟨?_, ?_, fun q => (h4 q).keep (e5 1 (by omega)) (fun k a b => hF.2.2 k (by omega) (by omega)), fun q => (h5 q).keep (e5 1 (by omega)) (fun k a b => hF.2.2 k (by omega) (by omega))⟩, ?_, ?_, fun k hk => ?_, ?_, ?_, ?_, ?_⟩
  · rw [e 59 (by omega)]; exact h2
  · rw [e 59 (by omega)]; exact h3
  · rw [e5 6 (by omega), e 53 (by omega)]; exact h6
  · rw [e5 22 (by omega), e 57 (by omega)]; exact h7
  · rw [e 60 (by omega), e 61 (by omega), e 62 (by omega)]; exact h8 k hk
  · rw [e5 28 (by omega)]; exact h9
  · rw [e5 7 (by omega)]; exact h10
  · rw [e5 19 (by omega)]; exact h11
  · exact h12.keep (e 54 (by omega)) (e 55 (by omega))
theorem bookV_b {w : LV} {a b : Int} (h1 : 0 ≤ vn w) (h2 : 0 ≤ vf w) : 0 ≤ vn (bookV w a b) ∧ 0 ≤ vf (bookV w a b) := by
  unfold bookV addV addF
  repeat' split
  all_goals first | exact ⟨h1, h2⟩ | exact ⟨h1, show 0 ≤ vf w + 1 by omega⟩
theorem rdG_s (z l : Int) (c : Int → Int) (ln f : Int) (v0 : LV) (k i : Nat) (v : LV) : rdG z l c ln f v0 (k + 1) i v = if pfl z l ln (f + 2 * (i : Int)) ≠ 0 then ((i : Int), pfl z l ln (f + 2 * (i : Int)), v) else if bookR v (c (f + 2 * (i : Int))) (c (f + 2 * (i : Int) + 1)) < 0 then (-20 - (i : Int), -1, v0) else rdG z l c ln f v0 k (i + 1) (bookV v (c (f + 2 * (i : Int))) (c (f + 2 * (i : Int) + 1))) := rfl

set_option maxHeartbeats 4000000 in
theorem r_read {g : GG} {M : Mem} {s : ST} (hC : Mdl M s) (hO : SOK s) (k l f n : Int) (hk : -2147483648 ≤ k ∧ k ≤ 2147483647) (hl : -2147483648 ≤ l ∧ l ≤ 2147483647) (hf : -2147483648 ≤ f ∧ f ≤ 2147483647) (hn : -2147483648 ≤ n ∧ n ≤ 2147483647) : CI g tX7_read 4 [rv g 50, iv k, iv l, iv f, iv n] M (PM M (aRead s k l f n) (nRead s k l f n)) := by
  refine Con.of [some (rv g 50), some (iv k), some (iv l), some (iv f), some (iv n), none, none, none, none] (by decide +kernel) rfl (Nat.le_of_ble_eq_true rfl) ?_
  obtain ⟨hV, ⟨hk0, hk1, hi0, hi1⟩, ⟨hT1, hT2⟩, ⟨hS1, hS2⟩, hZ, hN, hF, hKs, hMC⟩ := id hC
  obtain ⟨oV, oW, oI0, oI1, oT, oTb, oS, oSb, oZ⟩ := id hO
  have e1 : M 50 1 = vn (sV s) := hV.2.1
  have e40 : M 51 40 = vf (sV s) := hV.F (by omega)
  have e41 : M 51 41 = vw (sV s) := hV.W (by omega)
  have o1 := oV.1
  have o2 := oV.2.1
  have o3 := oV.2.2.1
  refine x_iload_n 1 1 dX7_read_0 rfl rfl (by decide) rfl ?_
  refine x_i2l 2 dX7_read_1 rfl (by omega) ?_
  refine x_lconst 3 dX7_read_2 rfl 0 rfl ?_
  refine x_ldc2 6 3 qX7_174 dX7_read_3 rfl ?_
  refine x_sp 9 [_, _, _] (m_in _ _ _ (by omega) (by omega) (by omega)) mX7_in kX7_53 dX7_read_6 rfl rfl rfl (Nat.le_of_ble_eq_true rfl) (by decide) ?_
  refine x_ifeq_b 37 12 dX7_read_9 (by decide) rfl (fun h9 => ?_) (fun h9 => ?_)
  · refine x_iconst 38 dX7_read_37 rfl ?_
    refine x_iret dX7_read_38 rfl ⟨rfl, Nat.le_refl _⟩ (qi_i ?_)
    have y1 : aRead s k l f n = -1 := by (unfold aRead; rw [if_neg (by omega)])
    have y2 : nRead s k l f n = s := by (unfold nRead; rw [if_neg (by omega)])
    rw [y1, y2]; exact PM.same hC rfl
  · refine x_iload_n 13 2 dX7_read_12 rfl rfl (by decide) rfl ?_
    refine x_i2l 14 dX7_read_13 rfl (by omega) ?_
    refine x_lconst 15 dX7_read_14 rfl 0 rfl ?_
    refine x_ldc2 18 2 qX7_204 dX7_read_15 rfl ?_
    refine x_sp 21 [_, _, _] (m_in _ _ _ (by omega) (by omega) (by omega)) mX7_in kX7_53 dX7_read_18 rfl rfl rfl (Nat.le_of_ble_eq_true rfl) (by decide) ?_
    refine x_ifeq_b 37 24 dX7_read_21 (by decide) rfl (fun h21 => ?_) (fun h21 => ?_)
    · refine x_iconst 38 dX7_read_37 rfl ?_
      refine x_iret dX7_read_38 rfl ⟨rfl, Nat.le_refl _⟩ (qi_i ?_)
      have y1 : aRead s k l f n = -1 := by (unfold aRead; rw [if_neg (by omega)])
      have y2 : nRead s k l f n = s := by (unfold nRead; rw [if_neg (by omega)])
      rw [y1, y2]; exact PM.same hC rfl
    · refine x_iload 26 4 dX7_read_24 rfl (by decide) rfl ?_
      refine x_i2l 27 dX7_read_26 rfl (by omega) ?_
      refine x_lconst 28 dX7_read_27 rfl 0 rfl ?_
      refine x_ldc2 31 20 qX7_180 dX7_read_28 rfl ?_
      refine x_sp 34 [_, _, _] (m_in _ _ _ (by omega) (by omega) (by omega)) mX7_in kX7_53 dX7_read_31 rfl rfl rfl (Nat.le_of_ble_eq_true rfl) (by decide) ?_
      refine x_ifne_b 39 37 dX7_read_34 (by decide) rfl (fun h34 => ?_) (fun h34 => ?_)
      · obtain ⟨K, rfl⟩ := Int.eq_ofNat_of_zero_le (show 0 ≤ k by omega)
        obtain ⟨N, rfl⟩ := Int.eq_ofNat_of_zero_le (show 0 ≤ n by omega)
        obtain ⟨z1, z2, z3⟩ := hZ K (by omega)
        obtain ⟨zb, zlb, zcb⟩ := oZ K (by omega)
        have lane : (zz s K = -1 ∧ M 60 K = -4) ∨ (zz s K ≠ -1 ∧ M 60 K = zl s K ∧ M 61 K = zz s K ∧ 0 ≤ zl s K ∧ zl s K ≤ 2) := by
          by_cases q : zz s K = -1
          · exact Or.inl ⟨q, z1 q⟩
          · exact Or.inr ⟨q, (z2 q).1, (z2 q).2, (zlb q).1, (zlb q).2⟩
        have ya : aRead s K l f N = (rdS s K l f N).1 := by (unfold aRead; rw [if_pos (by omega)])
        have yn : nRead s K l f N = if (rdS s K l f N).2.1 = -1 then s else uN (uV s (rdS s K l f N).2.2) (rdS s K l f N).2.1 := by (unfold nRead; rw [if_pos (by omega)])
        have hrd : rdS s K l f N = rdG (zz s K) (zl s K) (zc s K) l f (sV s) N 0 (sV s) := by (unfold rdS; rw [Int.toNat_natCast, Int.toNat_natCast])
        have tail196 : ∀ (M2 : Mem) (w : LV) (y : Int) (j : Nat) (i : Int) (j8 : Option Value), (0 ≤ y ∧ y ≤ 3) → j ≤ 20 → RP M2 0 w → FR M M2 → rdS s K l f N = ((j : Int), y, w) → X g tX7_read (kk0 4) 196 [some (rv g 50), some (iv K), some (iv l), some (iv f), some (iv N), some (iv y), some (iv j), some (iv i), j8] [] (S0, R0, M2) (QI (PM M (aRead s K l f N) (nRead s K l f N))) := by
          intro M2 w y j i j8 hy hj hR2 hF2 hr
          refine x_aload_n 197 0 dX7_read_196 rfl rfl (by decide) rfl ?_
          refine x_iload 199 5 dX7_read_197 rfl (by decide) rfl ?_
          refine x_putI 202 28 28 rfl dX7_read_199 rfl fX7_236 rfl rfl rfl (by omega) ?_
          refine x_iload 204 6 dX7_read_202 rfl (by decide) rfl ?_
          refine x_iret dX7_read_204 rfl ⟨rfl, Nat.le_refl _⟩ (qi_i ?_)
          rw [ya, yn, hr]
          rw [if_neg (show ¬ y = -1 by omega)]
          refine ⟨rfl, mdl_uN (mdl_uR hC hR2 hF2) y (fun a h0 => up2_o _ _ _ h0) (fun k hk => up2_k _ _ _ hk) (up2_s _ _ _ _), fun a ha => ?_⟩
          rw [up2_o _ _ _ (by omega)]; exact hF2.1 a (by omega) (by omega)
        have exit : ∀ (M2 : Mem) (w : LV) (y : Int) (j : Nat) (i : Int) (j8 : Option Value), (1 ≤ y ∧ y ≤ 3) → j ≤ 20 → (0 ≤ i ∧ i ≤ 100) → RP M2 0 w → FR M M2 → rdS s K l f N = ((j : Int), y, w) → X g tX7_read (kk0 4) 55 [some (rv g 50), some (iv K), some (iv l), some (iv f), some (iv N), some (iv y), some (iv j), some (iv i), j8] [] (S0, R0, M2) (QI (PM M (aRead s K l f N) (nRead s K l f N))) := by
          intro M2 w y j i j8 hy hj hi hR2 hF2 hr
          refine x_iload 57 7 dX7_read_55 rfl (by decide) rfl ?_
          refine x_iconst 58 dX7_read_57 rfl ?_
          refine x_iload 60 4 dX7_read_58 rfl (by decide) rfl ?_
          refine x_imul 61 dX7_read_60 rfl ?_
          refine x_icmp_ge 196 64 dX7_read_61 (by decide) rfl (by omega) (fun h61 => ?_) (fun h61 => ?_)
          · exact tail196 M2 w y j i j8 (by omega) hj hR2 hF2 hr
          · refine x_iload 66 5 dX7_read_64 rfl (by decide) rfl ?_
            refine x_if_ne 196 69 dX7_read_66 (by decide) rfl (by omega) (fun h66 => ?_) (fun h66 => ?_)
            · exact tail196 M2 w y j i j8 (by omega) hj hR2 hF2 hr
            · exfalso; omega
        have loop : ∀ (r j : Nat) (w : LV) (M2 : Mem) (j8 : Option Value), j + r = N → RP M2 0 w → RP M2 126 (sV s) → FR M M2 → 0 ≤ vn w → 0 ≤ vf w → rdG (zz s K) (zl s K) (zc s K) l f (sV s) r j w = rdS s K l f N → X g tX7_read (kk0 4) 55 [some (rv g 50), some (iv K), some (iv l), some (iv f), some (iv N), some (iv 0), some (iv j), some (iv (2 * (j : Int))), j8] [] (S0, R0, M2) (QI (PM M (aRead s K l f N) (nRead s K l f N))) := by
          intro r
          induction r with
          | zero =>
            intro j w M2 j8 hjr hR2 hA2 hF2 hn0 hf0 hr
            have hr0 : rdS s K l f N = ((j : Int), 0, w) := hr.symm
            refine x_iload 57 7 dX7_read_55 rfl (by decide) rfl ?_
            refine x_iconst 58 dX7_read_57 rfl ?_
            refine x_iload 60 4 dX7_read_58 rfl (by decide) rfl ?_
            refine x_imul 61 dX7_read_60 rfl ?_
            refine x_icmp_ge 196 64 dX7_read_61 (by decide) rfl (by omega) (fun h61 => ?_) (fun h61 => ?_)
            · exact tail196 M2 w 0 j _ j8 (by omega) (by omega) hR2 hF2 hr0
            · exfalso; omega
          | succ r ih =>
            intro j w M2 j8 hjr hR2 hA2 hF2 hn0 hf0 hr
            rw [rdG_s] at hr
            have f60 : M2 60 = M 60 := hF2.1 60 (by omega) (by omega)
            have f61 : M2 61 = M 61 := hF2.1 61 (by omega) (by omega)
            have f62 : M2 62 = M 62 := hF2.1 62 (by omega) (by omega)
            refine x_rng (fun hrg => ?_)
            have r60 := hrg 60 (K : Int)
            have r61 := hrg 61 (K : Int)
            rw [f60] at r60
            rw [f61] at r61
            have odd : ¬ zz s K = -1 → l = zl s K → (0 ≤ f + 2 * (j : Int) ∧ f + 2 * (j : Int) < zz s K) → X g tX7_read (kk0 4) 55 [some (rv g 50), some (iv K), some (iv l), some (iv f), some (iv N), some (iv 0), some (iv j), some (iv (2 * (j : Int) + 1)), j8] [] (S0, R0, M2) (QI (PM M (aRead s K l f N) (nRead s K l f N))) := by
              intro hz0 hl0 hf1
              refine x_iload 57 7 dX7_read_55 rfl (by decide) rfl ?_
              refine x_iconst 58 dX7_read_57 rfl ?_
              refine x_iload 60 4 dX7_read_58 rfl (by decide) rfl ?_
              refine x_imul 61 dX7_read_60 rfl ?_
              refine x_icmp_ge 196 64 dX7_read_61 (by decide) rfl (by omega) (fun h61 => ?_) (fun h61 => ?_)
              · exfalso; omega
              · refine x_iload 66 5 dX7_read_64 rfl (by decide) rfl ?_
                refine x_if_ne 196 69 dX7_read_66 (by decide) rfl (by omega) (fun h66 => ?_) (fun h66 => ?_)
                · exfalso; omega
                · refine x_cut 125 (fun z => z = (if zz s K = -1 then 1 else if l ≠ zl s K then 3 else if 0 ≤ f + (2 * (j : Int) + 1) ∧ f + (2 * (j : Int) + 1) < zz s K then 0 else 2)) (fun tail69 => ?_) (fun z69 hz69 => ?_)
                  · refine x_aload_n 70 0 dX7_read_69 rfl rfl (by decide) rfl ?_
                    refine x_getR 73 25 60 dX7_read_70 rfl fX7_42 rfl rfl rfl ?_
                    refine x_iload_n 74 1 dX7_read_73 rfl rfl (by decide) rfl ?_
                    refine x_iaload 75 dX7_read_74 rfl rfl (by omega) (fun g74 => ?_)
                    refine x_bipush 77 dX7_read_75 rfl (by decide) ?_
                    rw [f60]
                    refine x_icmp_ne 84 80 dX7_read_77 (by decide) rfl (by omega) (fun h77 => ?_) (fun h77 => ?_)
                    · refine x_aload_n 85 0 dX7_read_84 rfl rfl (by decide) rfl ?_
                      refine x_getR 88 25 60 dX7_read_85 rfl fX7_42 rfl rfl rfl ?_
                      refine x_iload_n 89 1 dX7_read_88 rfl rfl (by decide) rfl ?_
                      refine x_iaload 90 dX7_read_89 rfl rfl (by omega) (fun g89 => ?_)
                      refine x_iload_n 91 2 dX7_read_90 rfl rfl (by decide) rfl ?_
                      rw [f60]
                      refine x_icmp_eq 98 94 dX7_read_91 (by decide) rfl (by omega) (fun h91 => ?_) (fun h91 => ?_)
                      · refine x_iload_n 99 3 dX7_read_98 rfl rfl (by decide) rfl ?_
                        refine x_i2l 100 dX7_read_99 rfl (by omega) ?_
                        refine x_iload 102 7 dX7_read_100 rfl (by decide) rfl ?_
                        refine x_i2l 103 dX7_read_102 rfl (by omega) ?_
                        refine x_ladd 104 dX7_read_103 rfl ?_
                        refine x_lconst 105 dX7_read_104 rfl 0 rfl ?_
                        refine x_aload_n 106 0 dX7_read_105 rfl rfl (by decide) rfl ?_
                        refine x_getR 109 26 61 dX7_read_106 rfl fX7_45 rfl rfl rfl ?_
                        refine x_iload_n 110 1 dX7_read_109 rfl rfl (by decide) rfl ?_
                        refine x_iaload 111 dX7_read_110 rfl rfl (by omega) (fun g110 => ?_)
                        rw [f61]
                        refine x_iconst 112 dX7_read_111 rfl ?_
                        refine x_isub 113 dX7_read_112 rfl ?_
                        refine x_i2l 114 dX7_read_113 rfl (by omega) ?_
                        refine x_sp 117 [_, _, _] (m_in _ _ _ (by omega) (by omega) (by omega)) mX7_in kX7_53 dX7_read_114 rfl rfl rfl (Nat.le_of_ble_eq_true rfl) (by decide) ?_
                        refine x_ifne_b 124 120 dX7_read_117 (by decide) rfl (fun h117 => ?_) (fun h117 => ?_)
                        · refine x_iconst 125 dX7_read_124 rfl ?_
                          exact tail69 _ (by (repeat' split) <;> omega)
                        · refine x_iconst 121 dX7_read_120 rfl ?_
                          refine x_goto 125 dX7_read_121 (by decide) ?_
                          exact tail69 _ (by (repeat' split) <;> omega)
                      · refine x_iconst 95 dX7_read_94 rfl ?_
                        refine x_goto 125 dX7_read_95 (by decide) ?_
                        exact tail69 _ (by (repeat' split) <;> omega)
                    · refine x_iconst 81 dX7_read_80 rfl ?_
                      refine x_goto 125 dX7_read_81 (by decide) ?_
                      exact tail69 _ (by (repeat' split) <;> omega)
                  · refine x_istore 127 5 _ dX7_read_125 rfl (by decide) rfl rfl ?_
                    refine x_iload 129 5 dX7_read_127 rfl (by decide) rfl ?_
                    refine x_if_ne 190 132 dX7_read_129 (by decide) rfl (by omega) (fun h129 => ?_) (fun h129 => ?_)
                    · refine x_iinc 193 _ dX7_read_190 rfl (by decide) rfl rfl rfl ?_
                      refine x_goto 55 dX7_read_193 (by decide) ?_
                      first
                        | (have e0 := ih (j + 1) _ M3 (some (iv (40 * (K : Int) + f + (2 * (j : Int) + 1)))) (by omega) hR3 (hA2.far hF3 (by omega)) (hF2.tr (FR.of hF3 (by omega))) (bookV_b hn0 hf0).1 (bookV_b hn0 hf0).2 hr
                           rw [show 2 * ((j + 1 : Nat) : Int) = 2 * (j : Int) + 1 + 1 by omega] at e0
                           rw [show z69 = 0 by omega]
                           exact e0)
                        | (have hz2 : z69 = 2 := by (rw [if_neg hz0, if_neg (by omega)] at hz69; split at hz69 <;> omega)
                           have hp2 : pfl (zz s K) (zl s K) l (f + 2 * (j : Int)) = 2 := by (unfold pfl; rw [if_neg hz0, if_neg (by omega), if_neg (by rw [if_neg hz0, if_neg (by omega)] at hz69; split at hz69 <;> omega)])
                           rw [if_pos (by omega), hp2] at hr
                           rw [hz2]
                           exact exit M2 w 2 j _ _ (by omega) (by omega) (by omega) hR2 hF2 hr.symm)
                    · refine x_iload 134 7 dX7_read_132 rfl (by decide) rfl ?_
                      refine x_iconst 135 dX7_read_134 rfl ?_
                      refine x_irem 136 dX7_read_135 rfl (by omega) ?_
                      refine x_iconst 137 dX7_read_136 rfl ?_
                      refine x_icmp_ne 190 140 dX7_read_137 (by decide) rfl (by omega) (fun h137 => ?_) (fun h137 => ?_)
                      · exfalso; omega
                      · have c0 : M2 62 (40 * (K : Int) + f + (2 * (j : Int) + 1) - 1) = zc s K (f + 2 * (j : Int)) := by
                          rw [f62, show 40 * (K : Int) + f + (2 * (j : Int) + 1) - 1 = 40 * (K : Int) + (f + 2 * (j : Int)) by omega]; exact z3 _ (by omega) (by omega)
                        have c1 : M2 62 (40 * (K : Int) + f + (2 * (j : Int) + 1)) = zc s K (f + 2 * (j : Int) + 1) := by
                          rw [f62, show 40 * (K : Int) + f + (2 * (j : Int) + 1) = 40 * (K : Int) + (f + 2 * (j : Int) + 1) by omega]; exact z3 _ (by omega) (by omega)
                        have cb0 := zcb (f + 2 * (j : Int)) (by omega) (by omega)
                        have cb1 := zcb (f + 2 * (j : Int) + 1) (by omega) (by omega)
                        have hp0 : pfl (zz s K) (zl s K) l (f + 2 * (j : Int)) = 0 := by (unfold pfl; rw [if_neg hz0, if_neg (by omega), if_pos (by omega)])
                        rw [if_neg (by omega)] at hr
                        refine x_bipush 142 dX7_read_140 rfl (by decide) ?_
                        refine x_iload_n 143 1 dX7_read_142 rfl rfl (by decide) rfl ?_
                        refine x_imul 144 dX7_read_143 rfl ?_
                        refine x_iload_n 145 3 dX7_read_144 rfl rfl (by decide) rfl ?_
                        refine x_iadd 146 dX7_read_145 rfl ?_
                        refine x_iload 148 7 dX7_read_146 rfl (by decide) rfl ?_
                        refine x_iadd 149 dX7_read_148 rfl ?_
                        refine x_istore 151 8 _ dX7_read_149 rfl (by decide) rfl rfl ?_
                        refine x_aload_n 152 0 dX7_read_151 rfl rfl (by decide) rfl ?_
                        refine x_aload_n 153 0 dX7_read_152 rfl rfl (by decide) rfl ?_
                        refine x_getR 156 27 62 dX7_read_153 rfl fX7_48 rfl rfl rfl ?_
                        refine x_iload 158 8 dX7_read_156 rfl (by decide) rfl ?_
                        refine x_iconst 159 dX7_read_158 rfl ?_
                        refine x_isub 160 dX7_read_159 rfl ?_
                        refine x_iaload 161 dX7_read_160 rfl rfl (by omega) (fun g160 => ?_)
                        rw [c0]
                        refine x_aload_n 162 0 dX7_read_161 rfl rfl (by decide) rfl ?_
                        refine x_getR 165 27 62 dX7_read_162 rfl fX7_48 rfl rfl rfl ?_
                        refine x_iload 167 8 dX7_read_165 rfl (by decide) rfl ?_
                        refine x_iaload 168 dX7_read_167 rfl rfl (by omega) (fun g167 => ?_)
                        rw [c1]
                        refine x_vi 171 [_, _] (m_books hR2 hn0 hf0 _ _ cb0 cb1) mX7_books kX7_186 dX7_read_168 rfl rfl ⟨by decide, rfl⟩ rfl rfl (Nat.le_of_ble_eq_true rfl) (by decide) (fun r3 M3 q3 => ?_)
                        obtain ⟨rfl, hR3, hF3⟩ := q3
                        have brb : -3 ≤ bookR w (zc s K (f + 2 * (j : Int))) (zc s K (f + 2 * (j : Int) + 1)) ∧ bookR w (zc s K (f + 2 * (j : Int))) (zc s K (f + 2 * (j : Int) + 1)) ≤ 11 := bookR_b ⟨hf0, hR2.1.2⟩
                        refine x_if_ge 187 174 dX7_read_171 (by decide) rfl (by omega) (fun h171 => ?_) (fun h171 => ?_)
                        · rw [if_neg (by omega)] at hr
                          refine x_iinc 190 _ dX7_read_187 rfl (by decide) rfl rfl rfl ?_
                          refine x_iinc 193 _ dX7_read_190 rfl (by decide) rfl rfl rfl ?_
                          refine x_goto 55 dX7_read_193 (by decide) ?_
                          first
                            | (have e0 := ih (j + 1) _ M3 (some (iv (40 * (K : Int) + f + (2 * (j : Int) + 1)))) (by omega) hR3 (hA2.far hF3 (by omega)) (hF2.tr (FR.of hF3 (by omega))) (bookV_b hn0 hf0).1 (bookV_b hn0 hf0).2 hr
                               rw [show 2 * ((j + 1 : Nat) : Int) = 2 * (j : Int) + 1 + 1 by omega] at e0
                               rw [show z69 = 0 by omega]
                               exact e0)
                            | (have hz2 : z69 = 2 := by (rw [if_neg hz0, if_neg (by omega)] at hz69; split at hz69 <;> omega)
                               have hp2 : pfl (zz s K) (zl s K) l (f + 2 * (j : Int)) = 2 := by (unfold pfl; rw [if_neg hz0, if_neg (by omega), if_neg (by rw [if_neg hz0, if_neg (by omega)] at hz69; split at hz69 <;> omega)])
                               rw [if_pos (by omega), hp2] at hr
                               rw [hz2]
                               exact exit M2 w 2 j _ _ (by omega) (by omega) (by omega) hR2 hF2 hr.symm)
                        · refine x_aload_n 175 0 dX7_read_174 rfl rfl (by decide) rfl ?_
                          refine x_bipush 177 dX7_read_175 rfl (by decide) ?_
                          refine x_iconst 178 dX7_read_177 rfl ?_
                          refine x_vv 181 [_, _] (m_copies 126 0 (by omega) (by omega) (by omega)) mX7_copies kX7_195 dX7_read_178 rfl rfl ⟨by decide, rfl⟩ rfl rfl (Nat.le_of_ble_eq_true rfl) (by decide) (fun M4 q4 => ?_)
                          have hRb := (hA2.far hF3 (by omega)).copy q4
                          have hFb := (hF2.tr (FR.of hF3 (by omega))).tr (FR.of q4.fp (by omega))
                          refine x_bipush 183 dX7_read_181 rfl (by decide) ?_
                          refine x_iload 185 6 dX7_read_183 rfl (by decide) rfl ?_
                          refine x_isub 186 dX7_read_185 rfl ?_
                          refine x_iret dX7_read_186 rfl ⟨rfl, Nat.le_refl _⟩ (qi_i ?_)
                          rw [if_pos (by omega)] at hr
                          rw [ya, yn, ← hr, if_pos rfl]
                          exact ⟨rfl, mdl_uR hC hRb hFb, fun a ha => hFb.1 a (by omega) (by omega)⟩
            refine x_iload 57 7 dX7_read_55 rfl (by decide) rfl ?_
            refine x_iconst 58 dX7_read_57 rfl ?_
            refine x_iload 60 4 dX7_read_58 rfl (by decide) rfl ?_
            refine x_imul 61 dX7_read_60 rfl ?_
            refine x_icmp_ge 196 64 dX7_read_61 (by decide) rfl (by omega) (fun h61 => ?_) (fun h61 => ?_)
            · exfalso; omega
            · refine x_iload 66 5 dX7_read_64 rfl (by decide) rfl ?_
              refine x_if_ne 196 69 dX7_read_66 (by decide) rfl (by omega) (fun h66 => ?_) (fun h66 => ?_)
              · exfalso; omega
              · refine x_cut 125 (fun z => z = (if zz s K = -1 then 1 else if l ≠ zl s K then 3 else if 0 ≤ f + 2 * (j : Int) ∧ f + 2 * (j : Int) < zz s K then 0 else 2)) (fun tail69 => ?_) (fun z69 hz69 => ?_)
                · refine x_aload_n 70 0 dX7_read_69 rfl rfl (by decide) rfl ?_
                  refine x_getR 73 25 60 dX7_read_70 rfl fX7_42 rfl rfl rfl ?_
                  refine x_iload_n 74 1 dX7_read_73 rfl rfl (by decide) rfl ?_
                  refine x_iaload 75 dX7_read_74 rfl rfl (by omega) (fun g74 => ?_)
                  refine x_bipush 77 dX7_read_75 rfl (by decide) ?_
                  rw [f60]
                  refine x_icmp_ne 84 80 dX7_read_77 (by decide) rfl (by omega) (fun h77 => ?_) (fun h77 => ?_)
                  · refine x_aload_n 85 0 dX7_read_84 rfl rfl (by decide) rfl ?_
                    refine x_getR 88 25 60 dX7_read_85 rfl fX7_42 rfl rfl rfl ?_
                    refine x_iload_n 89 1 dX7_read_88 rfl rfl (by decide) rfl ?_
                    refine x_iaload 90 dX7_read_89 rfl rfl (by omega) (fun g89 => ?_)
                    refine x_iload_n 91 2 dX7_read_90 rfl rfl (by decide) rfl ?_
                    rw [f60]
                    refine x_icmp_eq 98 94 dX7_read_91 (by decide) rfl (by omega) (fun h91 => ?_) (fun h91 => ?_)
                    · refine x_iload_n 99 3 dX7_read_98 rfl rfl (by decide) rfl ?_
                      refine x_i2l 100 dX7_read_99 rfl (by omega) ?_
                      refine x_iload 102 7 dX7_read_100 rfl (by decide) rfl ?_
                      refine x_i2l 103 dX7_read_102 rfl (by omega) ?_
                      refine x_ladd 104 dX7_read_103 rfl ?_
                      refine x_lconst 105 dX7_read_104 rfl 0 rfl ?_
                      refine x_aload_n 106 0 dX7_read_105 rfl rfl (by decide) rfl ?_
                      refine x_getR 109 26 61 dX7_read_106 rfl fX7_45 rfl rfl rfl ?_
                      refine x_iload_n 110 1 dX7_read_109 rfl rfl (by decide) rfl ?_
                      refine x_iaload 111 dX7_read_110 rfl rfl (by omega) (fun g110 => ?_)
                      rw [f61]
                      refine x_iconst 112 dX7_read_111 rfl ?_
                      refine x_isub 113 dX7_read_112 rfl ?_
                      refine x_i2l 114 dX7_read_113 rfl (by omega) ?_
                      refine x_sp 117 [_, _, _] (m_in _ _ _ (by omega) (by omega) (by omega)) mX7_in kX7_53 dX7_read_114 rfl rfl rfl (Nat.le_of_ble_eq_true rfl) (by decide) ?_
                      refine x_ifne_b 124 120 dX7_read_117 (by decide) rfl (fun h117 => ?_) (fun h117 => ?_)
                      · refine x_iconst 125 dX7_read_124 rfl ?_
                        exact tail69 _ (by (repeat' split) <;> omega)
                      · refine x_iconst 121 dX7_read_120 rfl ?_
                        refine x_goto 125 dX7_read_121 (by decide) ?_
                        exact tail69 _ (by (repeat' split) <;> omega)
                    · refine x_iconst 95 dX7_read_94 rfl ?_
                      refine x_goto 125 dX7_read_95 (by decide) ?_
                      exact tail69 _ (by (repeat' split) <;> omega)
                  · refine x_iconst 81 dX7_read_80 rfl ?_
                    refine x_goto 125 dX7_read_81 (by decide) ?_
                    exact tail69 _ (by (repeat' split) <;> omega)
                · refine x_istore 127 5 _ dX7_read_125 rfl (by decide) rfl rfl ?_
                  refine x_iload 129 5 dX7_read_127 rfl (by decide) rfl ?_
                  refine x_if_ne 190 132 dX7_read_129 (by decide) rfl (by omega) (fun h129 => ?_) (fun h129 => ?_)
                  · refine x_iinc 193 _ dX7_read_190 rfl (by decide) rfl rfl rfl ?_
                    refine x_goto 55 dX7_read_193 (by decide) ?_
                    by_cases q0 : z69 = 0
                    · subst q0
                      have hq : ¬ zz s K = -1 ∧ l = zl s K ∧ (0 ≤ f + 2 * (j : Int) ∧ f + 2 * (j : Int) < zz s K) := by
                        repeat' split at hz69
                        all_goals first | omega | (exfalso; omega)
                      exact odd hq.1 hq.2.1 hq.2.2
                    · have hp2 : pfl (zz s K) (zl s K) l (f + 2 * (j : Int)) = z69 := by
                        unfold pfl
                        repeat' split at hz69
                        all_goals (repeat' split) <;> omega
                      have zr : 1 ≤ z69 ∧ z69 ≤ 3 := by (have := pfl_b (zz s K) (zl s K) l (f + 2 * (j : Int)); omega)
                      rw [if_pos (by omega), hp2] at hr
                      exact exit M2 w z69 j _ _ zr (by omega) (by omega) hR2 hF2 hr.symm
                  · refine x_iload 134 7 dX7_read_132 rfl (by decide) rfl ?_
                    refine x_iconst 135 dX7_read_134 rfl ?_
                    refine x_irem 136 dX7_read_135 rfl (by omega) ?_
                    refine x_iconst 137 dX7_read_136 rfl ?_
                    refine x_icmp_ne 190 140 dX7_read_137 (by decide) rfl (by omega) (fun h137 => ?_) (fun h137 => ?_)
                    · refine x_iinc 193 _ dX7_read_190 rfl (by decide) rfl rfl rfl ?_
                      refine x_goto 55 dX7_read_193 (by decide) ?_
                      by_cases q0 : z69 = 0
                      · subst q0
                        have hq : ¬ zz s K = -1 ∧ l = zl s K ∧ (0 ≤ f + 2 * (j : Int) ∧ f + 2 * (j : Int) < zz s K) := by
                          repeat' split at hz69
                          all_goals first | omega | (exfalso; omega)
                        exact odd hq.1 hq.2.1 hq.2.2
                      · have hp2 : pfl (zz s K) (zl s K) l (f + 2 * (j : Int)) = z69 := by
                          unfold pfl
                          repeat' split at hz69
                          all_goals (repeat' split) <;> omega
                        have zr : 1 ≤ z69 ∧ z69 ≤ 3 := by (have := pfl_b (zz s K) (zl s K) l (f + 2 * (j : Int)); omega)
                        rw [if_pos (by omega), hp2] at hr
                        exact exit M2 w z69 j _ _ zr (by omega) (by omega) hR2 hF2 hr.symm
                    · exfalso; omega
        refine x_aload_n 40 0 dX7_read_39 rfl rfl (by decide) rfl ?_
        refine x_iconst 41 dX7_read_40 rfl ?_
        refine x_bipush 43 dX7_read_41 rfl (by decide) ?_
        refine x_vv 46 [_, _] (m_copies 0 126 (by omega) (by omega) (by omega)) mX7_copies kX7_195 dX7_read_43 rfl rfl ⟨by decide, rfl⟩ rfl rfl (Nat.le_of_ble_eq_true rfl) (by decide) (fun Mc qc => ?_)
        refine x_iconst 47 dX7_read_46 rfl ?_
        refine x_istore 49 5 _ dX7_read_47 rfl (by decide) rfl rfl ?_
        refine x_iconst 50 dX7_read_49 rfl ?_
        refine x_istore 52 6 _ dX7_read_50 rfl (by decide) rfl rfl ?_
        refine x_iconst 53 dX7_read_52 rfl ?_
        refine x_istore 55 7 _ dX7_read_53 rfl (by decide) rfl rfl ?_
        exact loop N 0 (sV s) Mc _ (by omega) (hV.far qc.fp (by omega)) (hV.copy qc) (FR.of qc.fp (by omega)) (by omega) (by omega) hrd.symm
      · refine x_iconst 38 dX7_read_37 rfl ?_
        refine x_iret dX7_read_38 rfl ⟨rfl, Nat.le_refl _⟩ (qi_i ?_)
        have y1 : aRead s k l f n = -1 := by (unfold aRead; rw [if_neg (by omega)])
        have y2 : nRead s k l f n = s := by (unfold nRead; rw [if_neg (by omega)])
        rw [y1, y2]; exact PM.same hC rfl
