theorem fixN_bd {v : LV} (h : WF v) : fixN v = -4 ∨ (0 ≤ fixN v ∧ fixN v < vf v) := by
  unfold fixN
  split
  · next hf => exact Or.inr (now_in h hf)
  · exact Or.inl rfl

set_option maxHeartbeats 4000000 in
theorem p_skip {g : GG} {M : Mem} {s : ST} (hC : Cls M s) (hO : SOK s) (n w : Int) (hn : -2147483648 ≤ n ∧ n ≤ 2147483647) (hw : -2147483648 ≤ w ∧ w ≤ 2147483647) : CI g tX6_skip 8 [rv g 0, iv n, iv w] M (PC M (aSkip s n w) s) := by
  refine Con.of [some (rv g 0), some (iv n), some (iv w), none, none] (by decide +kernel) rfl (Nat.le_of_ble_eq_true rfl) ?_
  obtain ⟨hV, ⟨hk0, hk1, hi0, hi1⟩, ⟨hT1, hT2⟩, ⟨hS1, hS2⟩, hZ, hN, hF⟩ := id hC
  obtain ⟨oV, oW, oI0, oI1, oT, oTb, oS, oSb, oZ⟩ := id hO
  obtain ⟨e6, e7, e8, e4, e5⟩ := id hV
  have o1 := oV.1
  have o2 := oV.2.1
  have o3 := oV.2.2.1
  refine x_iload_n 1 1 dX6_skip_0 rfl rfl (by decide) rfl ?_
  refine x_bipush 3 dX6_skip_1 rfl (by decide) ?_
  refine x_sp 6 [_, _] (c_within _ _ (by omega) (by omega)) mX6_within kX6_70 dX6_skip_3 rfl rfl rfl (Nat.le_of_ble_eq_true rfl) (by decide) ?_
  refine x_ifeq_b 17 9 dX6_skip_6 (by decide) rfl (fun h6 => ?_) (fun h6 => ?_)
  · refine x_iconst 18 dX6_skip_17 rfl ?_
    refine x_iret dX6_skip_18 rfl ⟨rfl, Nat.le_refl _⟩ (qi_i ?_)
    refine PC.same hC ?_
    unfold aSkip; rw [if_neg (by omega)]
  · refine x_iload_n 10 2 dX6_skip_9 rfl rfl (by decide) rfl ?_
    refine x_iconst 11 dX6_skip_10 rfl ?_
    refine x_sp 14 [_, _] (c_within _ _ (by omega) (by omega)) mX6_within kX6_70 dX6_skip_11 rfl rfl rfl (Nat.le_of_ble_eq_true rfl) (by decide) ?_
    refine x_ifne_b 19 17 dX6_skip_14 (by decide) rfl (fun h14 => ?_) (fun h14 => ?_)
    · obtain ⟨N, rfl⟩ := Int.eq_ofNat_of_zero_le (show 0 ≤ n by omega)
      have inner : ∀ (i : Nat), i < (vf (sV s)).toNat → ∀ (m k : Nat) (M2 : Mem), N - k < m → k ≤ N → SF M M2 → BS M2 (skipB (sV s) N i) → Rep M2 11 (skV (sV s) i k) → (∀ (M3 : Mem) (jk : Option Value), SF M M3 → BS M3 (skipB (sV s) N (i + 1)) → X g tX6_skip (kk0 8) 33 [some (rv g 0), some (iv N), some (iv w), some (iv (i + 1 : Nat)), jk] [] (S0, R0, M3) (QI (PC M (aSkip s N w) s))) → X g tX6_skip (kk0 8) 58 [some (rv g 0), some (iv N), some (iv w), some (iv i), some (iv k)] [] (S0, R0, M2) (QI (PC M (aSkip s N w) s)) := by
        intro i hi m
        induction m with
        | zero => intro k M2 k1 k2; omega
        | succ m ih =>
          intro k M2 k1 k2 hSF hB hR2 hK
          have hwf := skV_WF oV (i : Int) k
          have hww := skV_w (sV s) (i : Int) k
          have hff := skV_f (sV s) (i : Int) k
          have g8 : M2 11 8 = vw (skV (sV s) i k) := hR2.2.2.1
          have g7 : M2 11 7 = vf (skV (sV s) i k) := hR2.2.1
          have hfn := c_fixtureNow (g := g) (M := M2) (o := 11) (Or.inr (Or.inl rfl)) (by omega)
          have hfx : (if 0 < M2 11 7 then M2 11 8 % M2 11 7 else -4) = fixN (skV (sV s) i k) := by (unfold fixN; rw [g7, g8])
          rw [hfx] at hfn
          have fb : fixN (skV (sV s) i k) = -4 ∨ (0 ≤ fixN (skV (sV s) i k) ∧ fixN (skV (sV s) i k) < vf (sV s)) := by (have := fixN_bd hwf; omega)
          refine x_iload 60 4 dX6_skip_58 rfl (by decide) rfl ?_
          refine x_iload_n 61 1 dX6_skip_60 rfl rfl (by decide) rfl ?_
          refine x_icmp_ge 94 64 dX6_skip_61 (by decide) rfl (by omega) (fun h61 => ?_) (fun h61 => ?_)
          · have ob := owed_bd hwf
            refine x_aload_n 95 0 dX6_skip_94 rfl rfl (by decide) rfl ?_
            refine x_getR 98 8 24 dX6_skip_95 rfl fX6_55 rfl rfl rfl ?_
            refine x_iload_n 99 3 dX6_skip_98 rfl rfl (by decide) rfl ?_
            refine x_aload_n 100 0 dX6_skip_99 rfl rfl (by decide) rfl ?_
            refine x_getR 103 3 11 dX6_skip_100 rfl fX6_28 rfl rfl rfl ?_
            refine x_vp 106 [] (c_owed (o := 11) (Or.inr (Or.inl rfl)) hR2 hwf) mX1_owed kX6_117 dX6_skip_103 rfl rfl ⟨by decide, rfl⟩ rfl rfl (Nat.le_of_ble_eq_true rfl) (by decide) ?_
            refine x_vv 109 [_, _] (c_boffer _ _ (by omega) (by omega)) mX0_offer kX6_195 dX6_skip_106 rfl rfl ⟨by decide, rfl⟩ rfl rfl (Nat.le_of_ble_eq_true rfl) (by decide) (fun M5 q5 => ?_)
            have hB5 := hB.put (i : Int) (owed (skV (sV s) i k))
            have hS5 := hSF.put (i : Int) (owed (skV (sV s) i k))
            rw [← q5] at hB5 hS5
            refine x_iinc 112 _ dX6_skip_109 rfl (by decide) rfl rfl rfl ?_
            refine x_goto 33 dX6_skip_112 (by decide) ?_
            have hk : k = N := by omega
            subst hk
            exact hK _ _ hS5 hB5
          · refine x_aload_n 65 0 dX6_skip_64 rfl rfl (by decide) rfl ?_
            refine x_getR 68 3 11 dX6_skip_65 rfl fX6_28 rfl rfl rfl ?_
            refine x_aload_n 69 0 dX6_skip_68 rfl rfl (by decide) rfl ?_
            refine x_getR 72 3 11 dX6_skip_69 rfl fX6_28 rfl rfl rfl ?_
            refine x_vp 75 [] (hfn) mX1_fixtureNow kX6_110 dX6_skip_72 rfl rfl ⟨by decide, rfl⟩ rfl rfl (Nat.le_of_ble_eq_true rfl) (by decide) ?_
            refine x_iload_n 76 3 dX6_skip_75 rfl rfl (by decide) rfl ?_
            refine x_icmp_ne 83 79 dX6_skip_76 (by decide) rfl (by omega) (fun h76 => ?_) (fun h76 => ?_)
            · refine x_iconst 84 dX6_skip_83 rfl ?_
              refine x_vi 87 [_] (c_runWeek (o := 11) (Or.inr (Or.inl rfl)) hR2 hwf (by omega) _ (by omega)) mX1_runWeek kX6_169 dX6_skip_84 rfl rfl ⟨by decide, rfl⟩ rfl rfl (Nat.le_of_ble_eq_true rfl) (by decide) (fun r3 M3 q3 => ?_)
              obtain ⟨rfl, hR3, hF3⟩ := q3
              refine x_pop 88 dX6_skip_87 rfl rfl ?_
              refine x_iinc 91 _ dX6_skip_88 rfl (by decide) rfl rfl rfl ?_
              refine x_goto 58 dX6_skip_91 (by decide) ?_
              have hstep : skV (sV s) i (k + 1) = wkV (skV (sV s) i k) (if fixN (skV (sV s) i k) = i then 1 else 0) := rfl
              first | rw [if_pos (by omega)] at hstep | rw [if_neg (by omega)] at hstep
              exact ih (k + 1) _ (by omega) (by omega) (hSF.tr (SF.of hF3)) (hB.fr hF3) (by rw [hstep]; exact hR3) hK
            · refine x_iconst 80 dX6_skip_79 rfl ?_
              refine x_goto 84 dX6_skip_80 (by decide) ?_
              refine x_vi 87 [_] (c_runWeek (o := 11) (Or.inr (Or.inl rfl)) hR2 hwf (by omega) _ (by omega)) mX1_runWeek kX6_169 dX6_skip_84 rfl rfl ⟨by decide, rfl⟩ rfl rfl (Nat.le_of_ble_eq_true rfl) (by decide) (fun r3 M3 q3 => ?_)
              obtain ⟨rfl, hR3, hF3⟩ := q3
              refine x_pop 88 dX6_skip_87 rfl rfl ?_
              refine x_iinc 91 _ dX6_skip_88 rfl (by decide) rfl rfl rfl ?_
              refine x_goto 58 dX6_skip_91 (by decide) ?_
              have hstep : skV (sV s) i (k + 1) = wkV (skV (sV s) i k) (if fixN (skV (sV s) i k) = i then 1 else 0) := rfl
              first | rw [if_pos (by omega)] at hstep | rw [if_neg (by omega)] at hstep
              exact ih (k + 1) _ (by omega) (by omega) (hSF.tr (SF.of hF3)) (hB.fr hF3) (by rw [hstep]; exact hR3) hK
      have outer : ∀ (m i : Nat) (M2 : Mem) (jk : Option Value), (vf (sV s)).toNat - i < m → i ≤ (vf (sV s)).toNat → SF M M2 → BS M2 (skipB (sV s) N i) → X g tX6_skip (kk0 8) 33 [some (rv g 0), some (iv N), some (iv w), some (iv i), jk] [] (S0, R0, M2) (QI (PC M (aSkip s N w) s)) := by
        intro m
        induction m with
        | zero => intro i M2 jk k1 k2; omega
        | succ m ih =>
          intro i M2 jk k1 k2 hSF hB
          have hV2 := hSF.R4 hV
          have f7 : M2 4 7 = vf (sV s) := hV2.2.1
          refine x_iload_n 34 3 dX6_skip_33 rfl rfl (by decide) rfl ?_
          refine x_aload_n 35 0 dX6_skip_34 rfl rfl (by decide) rfl ?_
          refine x_getR 38 2 4 dX6_skip_35 rfl fX6_24 rfl rfl rfl ?_
          refine x_getI 41 7 7 rfl dX6_skip_38 rfl fX6_104 rfl rfl (fun g38 => ?_)
          refine x_icmp_ge 115 44 dX6_skip_41 (by decide) rfl (by omega) (fun h41 => ?_) (fun h41 => ?_)
          · refine x_aload_n 116 0 dX6_skip_115 rfl rfl (by decide) rfl ?_
            refine x_getR 119 8 24 dX6_skip_116 rfl fX6_55 rfl rfl rfl ?_
            refine x_iload_n 120 2 dX6_skip_119 rfl rfl (by decide) rfl ?_
            refine x_vp 123 [_] (c_banswer w (by omega)) mX0_answer kX6_205 dX6_skip_120 rfl rfl ⟨by decide, rfl⟩ rfl rfl (Nat.le_of_ble_eq_true rfl) (by decide) ?_
            refine x_iret dX6_skip_123 rfl ⟨rfl, Nat.le_refl _⟩ (qi_i ?_)
            have hi : i = (vf (sV s)).toNat := by omega
            subst hi
            refine PC.scr hC ?_ hSF
            have y : aSkip s N w = ansB (skipB (sV s) N (vf (sV s)).toNat) w := by (unfold aSkip; rw [if_pos (by omega), Int.toNat_natCast])
            rw [y]
            unfold ansB; rw [hB.1, hB.2]
          · refine x_aload_n 45 0 dX6_skip_44 rfl rfl (by decide) rfl ?_
            refine x_getR 48 3 11 dX6_skip_45 rfl fX6_28 rfl rfl rfl ?_
            refine x_aload_n 49 0 dX6_skip_48 rfl rfl (by decide) rfl ?_
            refine x_getR 52 2 4 dX6_skip_49 rfl fX6_24 rfl rfl rfl ?_
            refine x_vv 55 [_] (c_become (o := 11) (p := 4) (Or.inr (Or.inl rfl)) (Or.inl rfl) (by decide) hV2 oV) mX1_become kX6_94 dX6_skip_52 rfl rfl ⟨by decide, rfl⟩ rfl rfl (Nat.le_of_ble_eq_true rfl) (by decide) (fun Mb q2 => ?_)
            obtain ⟨hR2, hF2⟩ := q2
            refine x_iconst 56 dX6_skip_55 rfl ?_
            refine x_istore 58 4 _ dX6_skip_56 rfl (by decide) rfl rfl ?_
            exact inner i (by omega) (N + 1) 0 _ (by omega) (by omega) (hSF.tr (SF.of hF2)) (hB.fr hF2) hR2 (fun M3 jk h1 h2 => ih (i + 1) M3 jk (by omega) (by omega) h1 h2)
      refine x_aload_n 20 0 dX6_skip_19 rfl rfl (by decide) rfl ?_
      refine x_getR 23 8 24 dX6_skip_20 rfl fX6_55 rfl rfl rfl ?_
      refine x_aload_n 24 0 dX6_skip_23 rfl rfl (by decide) rfl ?_
      refine x_iload_n 25 1 dX6_skip_24 rfl rfl (by decide) rfl ?_
      refine x_vi 28 [_] (c_owedAsItIs hV oV oW N (by omega)) mX6_owedAsItIs kX6_202 dX6_skip_25 rfl rfl ⟨by decide, rfl⟩ rfl rfl (Nat.le_of_ble_eq_true rfl) (by decide) (fun r1 M1 q1 => ?_)
      obtain ⟨rfl, hF1⟩ := q1
      have ob := owed_bd (goV_WF oV N)
      refine x_vv 31 [_] (c_bstart _ (by omega)) mX0_start kX6_189 dX6_skip_28 rfl rfl ⟨by decide, rfl⟩ rfl rfl (Nat.le_of_ble_eq_true rfl) (by decide) (fun M0 q0 => ?_)
      subst q0
      refine x_iconst 32 dX6_skip_31 rfl ?_
      refine x_istore_n 33 3 _ dX6_skip_32 rfl rfl (by decide) rfl rfl ?_
      refine outer ((vf (sV s)).toNat + 1) 0 _ _ (by omega) (by omega) (((SF.of hF1).up _ _ _ (by unfold Scr; omega)).up _ _ _ (by unfold Scr; omega)) ⟨?_, ?_⟩
      · rw [up2_k _ _ _ (by omega), up2_s]; rfl
      · rw [up2_s]; rfl
    · refine x_iconst 18 dX6_skip_17 rfl ?_
      refine x_iret dX6_skip_18 rfl ⟨rfl, Nat.le_refl _⟩ (qi_i ?_)
      refine PC.same hC ?_
      unfold aSkip; rw [if_neg (by omega)]

theorem firstN_bd {p : Nat → Bool} : ∀ {n : Nat}, n ≤ 100 → firstN p n = -4 ∨ (0 ≤ firstN p n ∧ firstN p n ≤ 100)
  | 0, _ => Or.inl rfl
  | n + 1, h => by
    have ih := firstN_bd (p := p) (n := n) (by omega)
    show (if firstN p n = -4 then (if p n then (n : Int) else -4) else firstN p n) = -4 ∨ _
    show (if firstN p n = -4 then (if p n then (n : Int) else -4) else firstN p n) = -4 ∨ (0 ≤ (if firstN p n = -4 then (if p n then (n : Int) else -4) else firstN p n) ∧ (if firstN p n = -4 then (if p n then (n : Int) else -4) else firstN p n) ≤ 100)
    repeat' split
    all_goals omega

set_option maxHeartbeats 4000000 in
theorem p_most {g : GG} {M : Mem} {s : ST} (hC : Cls M s) (hO : SOK s) (t n : Int) (ht : -2147483648 ≤ t ∧ t ≤ 2147483647) (hn : -2147483648 ≤ n ∧ n ≤ 2147483647) : CI g tX6_most 8 [rv g 0, iv t, iv n] M (PC M (aMost s t n) s) := by
  refine Con.of [some (rv g 0), some (iv t), some (iv n), none] (by decide +kernel) rfl (Nat.le_of_ble_eq_true rfl) ?_
  obtain ⟨hV, ⟨hk0, hk1, hi0, hi1⟩, ⟨hT1, hT2⟩, ⟨hS1, hS2⟩, hZ, hN, hF⟩ := id hC
  obtain ⟨oV, oW, oI0, oI1, oT, oTb, oS, oSb, oZ⟩ := id hO
  obtain ⟨e6, e7, e8, e4, e5⟩ := id hV
  have o1 := oV.1
  have o2 := oV.2.1
  have o3 := oV.2.2.1
  refine x_aload_n 1 0 dX6_most_0 rfl rfl (by decide) rfl ?_
  refine x_getR 4 2 4 dX6_most_1 rfl fX6_24 rfl rfl rfl ?_
  refine x_iload_n 5 1 dX6_most_4 rfl rfl (by decide) rfl ?_
  refine x_vp 8 [_] (c_hasTown (o := 4) (Or.inl rfl) t ht) mX1_hasTown kX6_120 dX6_most_5 rfl rfl ⟨by decide, rfl⟩ rfl rfl (Nat.le_of_ble_eq_true rfl) (by decide) ?_
  refine x_ifeq_b 20 11 dX6_most_8 (by decide) rfl (fun h8 => ?_) (fun h8 => ?_)
  · refine x_iconst 21 dX6_most_20 rfl ?_
    refine x_iret dX6_most_21 rfl ⟨rfl, Nat.le_refl _⟩ (qi_i ?_)
    refine PC.same hC ?_
    unfold aMost; rw [if_neg (by omega)]
  · refine x_iload_n 12 2 dX6_most_11 rfl rfl (by decide) rfl ?_
    refine x_bipush 14 dX6_most_12 rfl (by decide) ?_
    refine x_sp 17 [_, _] (c_within _ _ (by omega) (by omega)) mX6_within kX6_70 dX6_most_14 rfl rfl rfl (Nat.le_of_ble_eq_true rfl) (by decide) ?_
    refine x_ifne_b 22 20 dX6_most_17 (by decide) rfl (fun h17 => ?_) (fun h17 => ?_)
    · obtain ⟨N, rfl⟩ := Int.eq_ofNat_of_zero_le (show 0 ≤ n by omega)
      have ht2 : 0 ≤ t ∧ t < vn (sV s) := by omega
      have loop : ∀ (k : Nat) (M2 : Mem), k ≤ 21 → SF M M2 → mostF (sV s) t N k = mostF (sV s) t N 21 → X g tX6_most (kk0 8) 25 [some (rv g 0), some (iv t), some (iv N), some (iv ((k : Int) - 1))] [] (S0, R0, M2) (QI (PC M (aMost s t N) s)) := by
        intro k
        induction k with
        | zero =>
          intro M2 k1 hSF he
          refine x_iload_n 26 3 dX6_most_25 rfl rfl (by decide) rfl ?_
          refine x_if_lt 57 29 dX6_most_26 (by decide) rfl (by omega) (fun h26 => ?_) (fun h26 => ?_)
          · refine x_bipush 59 dX6_most_57 rfl (by decide) ?_
            refine x_iret dX6_most_59 rfl ⟨rfl, Nat.le_refl _⟩ (qi_i ?_)
            refine PC.scr hC ?_ hSF
            unfold aMost; rw [if_pos (by omega), Int.toNat_natCast, ← he]
            rfl
          · exfalso; omega
        | succ k ih =>
          intro M2 k1 hSF he
          have hV2 := hSF.R4 hV
          have hwf : WF (setS (sV s) (fu (vS (sV s)) t k)) := setS_WF oV t k (by omega)
          have hstep : mostF (sV s) t N (k + 1) = if flN (setS (sV s) (fu (vS (sV s)) t k)) t N ≠ -4 then (k : Int) else mostF (sV s) t N k := rfl
          have ek : ((k + 1 : Nat) : Int) - 1 = k := by omega
          rw [ek]
          have hfl : flN (setS (sV s) (fu (vS (sV s)) t k)) t N = -4 ∨ (0 ≤ flN (setS (sV s) (fu (vS (sV s)) t k)) t N ∧ flN (setS (sV s) (fu (vS (sV s)) t k)) t N ≤ 100) := firstN_bd (by omega)
          refine x_iload_n 26 3 dX6_most_25 rfl rfl (by decide) rfl ?_
          refine x_if_lt 57 29 dX6_most_26 (by decide) rfl (by omega) (fun h26 => ?_) (fun h26 => ?_)
          · exfalso; omega
          · refine x_aload_n 30 0 dX6_most_29 rfl rfl (by decide) rfl ?_
            refine x_iload_n 31 1 dX6_most_30 rfl rfl (by decide) rfl ?_
            refine x_iload_n 32 3 dX6_most_31 rfl rfl (by decide) rfl ?_
            refine x_vv 35 [_, _] (c_tryStrength hV2 oV oW t k ht2 (by omega)) mX6_tryStrength kX6_211 dX6_most_32 rfl rfl ⟨by decide, rfl⟩ rfl rfl (Nat.le_of_ble_eq_true rfl) (by decide) (fun M3 q3 => ?_)
            obtain ⟨hR2, hF2⟩ := q3
            refine x_aload_n 36 0 dX6_most_35 rfl rfl (by decide) rfl ?_
            refine x_getR 39 3 11 dX6_most_36 rfl fX6_28 rfl rfl rfl ?_
            refine x_iload_n 40 1 dX6_most_39 rfl rfl (by decide) rfl ?_
            refine x_iload_n 41 2 dX6_most_40 rfl rfl (by decide) rfl ?_
            refine x_vi 44 [_, _] (c_firstLoss (o := 11) (Or.inr (Or.inl rfl)) hR2 hwf t ht N (by omega) (by show vw (sV s) ≤ 10000; omega)) mX1_firstLoss kX6_173 dX6_most_41 rfl rfl ⟨by decide, rfl⟩ rfl rfl (Nat.le_of_ble_eq_true rfl) (by decide) (fun r4 M4 q4 => ?_)
            obtain ⟨rfl, hF3⟩ := q4
            refine x_bipush 46 dX6_most_44 rfl (by decide) ?_
            refine x_icmp_eq 51 49 dX6_most_46 (by decide) rfl (by omega) (fun h46 => ?_) (fun h46 => ?_)
            · refine x_iinc 54 _ dX6_most_51 rfl (by decide) rfl rfl rfl ?_
              refine x_goto 25 dX6_most_54 (by decide) ?_
              rw [if_neg (by omega)] at hstep
              exact ih _ (by omega) ((hSF.tr (SF.of hF2)).tr (SF.of hF3)) (by rw [← hstep]; exact he)
            · refine x_iload_n 50 3 dX6_most_49 rfl rfl (by decide) rfl ?_
              refine x_iret dX6_most_50 rfl ⟨rfl, Nat.le_refl _⟩ (qi_i ?_)
              rw [if_pos (by omega)] at hstep
              refine PC.scr hC ?_ ((hSF.tr (SF.of hF2)).tr (SF.of hF3))
              unfold aMost; rw [if_pos (by omega), Int.toNat_natCast, ← he, hstep]
      refine x_bipush 24 dX6_most_22 rfl (by decide) ?_
      refine x_istore_n 25 3 _ dX6_most_24 rfl rfl (by decide) rfl rfl ?_
      exact loop 21 M (by omega) (SF.rf M) rfl
    · refine x_iconst 21 dX6_most_20 rfl ?_
      refine x_iret dX6_most_21 rfl ⟨rfl, Nat.le_refl _⟩ (qi_i ?_)
      refine PC.same hC ?_
      unfold aMost; rw [if_neg (by omega)]

set_option maxHeartbeats 4000000 in
theorem p_kind {g : GG} {M : Mem} {s : ST} (hC : Cls M s) (hO : SOK s) (t n w : Int) (ht : -2147483648 ≤ t ∧ t ≤ 2147483647) (hn : -2147483648 ≤ n ∧ n ≤ 2147483647) (hw : -2147483648 ≤ w ∧ w ≤ 2147483647) : CI g tX6_kind 8 [rv g 0, iv t, iv n, iv w] M (PC M (aKind s t n w) s) := by
  refine Con.of [some (rv g 0), some (iv t), some (iv n), some (iv w), none] (by decide +kernel) rfl (Nat.le_of_ble_eq_true rfl) ?_
  obtain ⟨hV, ⟨hk0, hk1, hi0, hi1⟩, ⟨hT1, hT2⟩, ⟨hS1, hS2⟩, hZ, hN, hF⟩ := id hC
  obtain ⟨oV, oW, oI0, oI1, oT, oTb, oS, oSb, oZ⟩ := id hO
  obtain ⟨e6, e7, e8, e4, e5⟩ := id hV
  have o1 := oV.1
  have o2 := oV.2.1
  have o3 := oV.2.2.1
  refine x_aload_n 1 0 dX6_kind_0 rfl rfl (by decide) rfl ?_
  refine x_getR 4 2 4 dX6_kind_1 rfl fX6_24 rfl rfl rfl ?_
  refine x_iload_n 5 1 dX6_kind_4 rfl rfl (by decide) rfl ?_
  refine x_vp 8 [_] (c_hasTown (o := 4) (Or.inl rfl) t ht) mX1_hasTown kX6_120 dX6_kind_5 rfl rfl ⟨by decide, rfl⟩ rfl rfl (Nat.le_of_ble_eq_true rfl) (by decide) ?_
  refine x_ifeq_b 28 11 dX6_kind_8 (by decide) rfl (fun h8 => ?_) (fun h8 => ?_)
  · refine x_iconst 29 dX6_kind_28 rfl ?_
    refine x_iret dX6_kind_29 rfl ⟨rfl, Nat.le_refl _⟩ (qi_i ?_)
    refine PC.same hC ?_
    unfold aKind; rw [if_neg (by omega)]
  · refine x_iload_n 12 2 dX6_kind_11 rfl rfl (by decide) rfl ?_
    refine x_bipush 14 dX6_kind_12 rfl (by decide) ?_
    refine x_sp 17 [_, _] (c_within _ _ (by omega) (by omega)) mX6_within kX6_70 dX6_kind_14 rfl rfl rfl (Nat.le_of_ble_eq_true rfl) (by decide) ?_
    refine x_ifeq_b 28 20 dX6_kind_17 (by decide) rfl (fun h17 => ?_) (fun h17 => ?_)
    · refine x_iconst 29 dX6_kind_28 rfl ?_
      refine x_iret dX6_kind_29 rfl ⟨rfl, Nat.le_refl _⟩ (qi_i ?_)
      refine PC.same hC ?_
      unfold aKind; rw [if_neg (by omega)]
    · refine x_iload_n 21 3 dX6_kind_20 rfl rfl (by decide) rfl ?_
      refine x_iconst 22 dX6_kind_21 rfl ?_
      refine x_sp 25 [_, _] (c_within _ _ (by omega) (by omega)) mX6_within kX6_70 dX6_kind_22 rfl rfl rfl (Nat.le_of_ble_eq_true rfl) (by decide) ?_
      refine x_ifne_b 30 28 dX6_kind_25 (by decide) rfl (fun h25 => ?_) (fun h25 => ?_)
      · obtain ⟨N, rfl⟩ := Int.eq_ofNat_of_zero_le (show 0 ≤ n by omega)
        have ht2 : 0 ≤ t ∧ t < vn (sV s) := by omega
        have loop : ∀ (m k : Nat) (M2 : Mem), 4 - k < m → k ≤ 4 → SF M M2 → BS M2 (kindB (sV s) t N k) → X g tX6_kind (kk0 8) 43 [some (rv g 0), some (iv t), some (iv N), some (iv w), some (iv k)] [] (S0, R0, M2) (QI (PC M (aKind s t N w) s)) := by
          intro m
          induction m with
          | zero => intro k M2 k1 k2; omega
          | succ m ih =>
            intro k M2 k1 k2 hSF hB
            have hV2 := hSF.R4 hV
            refine x_iload 45 4 dX6_kind_43 rfl (by decide) rfl ?_
            refine x_iconst 46 dX6_kind_45 rfl ?_
            refine x_icmp_ge 87 49 dX6_kind_46 (by decide) rfl (by omega) (fun h46 => ?_) (fun h46 => ?_)
            · refine x_aload_n 88 0 dX6_kind_87 rfl rfl (by decide) rfl ?_
              refine x_getR 91 8 24 dX6_kind_88 rfl fX6_55 rfl rfl rfl ?_
              refine x_iload_n 92 3 dX6_kind_91 rfl rfl (by decide) rfl ?_
              refine x_vp 95 [_] (c_banswer w (by omega)) mX0_answer kX6_205 dX6_kind_92 rfl rfl ⟨by decide, rfl⟩ rfl rfl (Nat.le_of_ble_eq_true rfl) (by decide) ?_
              refine x_iret dX6_kind_95 rfl ⟨rfl, Nat.le_refl _⟩ (qi_i ?_)
              have hk : k = 4 := by omega
              subst hk
              refine PC.scr hC ?_ hSF
              have y : aKind s t N w = ansB (kindB (sV s) t N 4) w := by (unfold aKind; rw [if_pos (by omega), Int.toNat_natCast])
              rw [y]
              unfold ansB; rw [hB.1, hB.2]
            · refine x_aload_n 50 0 dX6_kind_49 rfl rfl (by decide) rfl ?_
              refine x_iload_n 51 1 dX6_kind_50 rfl rfl (by decide) rfl ?_
              refine x_iload 53 4 dX6_kind_51 rfl (by decide) rfl ?_
              refine x_vv 56 [_, _] (c_tryKind hV2 oV oW t k ht2 (by omega)) mX6_tryKind kX6_214 dX6_kind_53 rfl rfl ⟨by decide, rfl⟩ rfl rfl (Nat.le_of_ble_eq_true rfl) (by decide) (fun M3 q3 => ?_)
              obtain ⟨hR2, hF2⟩ := q3
              have hwf : WF (setK (sV s) (fu (vK (sV s)) t k)) := setK_WF oV t k (by omega)
              have ob := owed_bd (goV_WF hwf N)
              refine x_aload_n 57 0 dX6_kind_56 rfl rfl (by decide) rfl ?_
              refine x_getR 60 3 11 dX6_kind_57 rfl fX6_28 rfl rfl rfl ?_
              refine x_iload_n 61 2 dX6_kind_60 rfl rfl (by decide) rfl ?_
              refine x_vi 64 [_] (c_runWeeks (o := 11) (Or.inr (Or.inl rfl)) hR2 hwf N (by omega) (by show vw (sV s) ≤ 10000; omega)) mX1_runWeeks kX6_166 dX6_kind_61 rfl rfl ⟨by decide, rfl⟩ rfl rfl (Nat.le_of_ble_eq_true rfl) (by decide) (fun r4 M4 q4 => ?_)
              obtain ⟨rfl, hR4, hF4⟩ := q4
              refine x_pop 65 dX6_kind_64 rfl rfl ?_
              refine x_aload_n 66 0 dX6_kind_65 rfl rfl (by decide) rfl ?_
              refine x_getR 69 8 24 dX6_kind_66 rfl fX6_55 rfl rfl rfl ?_
              refine x_iload 71 4 dX6_kind_69 rfl (by decide) rfl ?_
              refine x_aload_n 72 0 dX6_kind_71 rfl rfl (by decide) rfl ?_
              refine x_getR 75 3 11 dX6_kind_72 rfl fX6_28 rfl rfl rfl ?_
              refine x_vp 78 [] (c_owed (o := 11) (Or.inr (Or.inl rfl)) hR4 (goV_WF hwf N)) mX1_owed kX6_117 dX6_kind_75 rfl rfl ⟨by decide, rfl⟩ rfl rfl (Nat.le_of_ble_eq_true rfl) (by decide) ?_
              refine x_vv 81 [_, _] (c_boffer _ _ (by omega) (by omega)) mX0_offer kX6_195 dX6_kind_78 rfl rfl ⟨by decide, rfl⟩ rfl rfl (Nat.le_of_ble_eq_true rfl) (by decide) (fun M5 q5 => ?_)
              have hB5 := ((hB.fr hF2).fr hF4).put (k : Int) (owed (goV (setK (sV s) (fu (vK (sV s)) t k)) N))
              have hS5 := ((hSF.tr (SF.of hF2)).tr (SF.of hF4)).put (k : Int) (owed (goV (setK (sV s) (fu (vK (sV s)) t k)) N))
              rw [← q5] at hB5 hS5
              refine x_iinc 84 _ dX6_kind_81 rfl (by decide) rfl rfl rfl ?_
              refine x_goto 43 dX6_kind_84 (by decide) ?_
              exact ih (k + 1) _ (by omega) (by omega) hS5 hB5
        refine x_aload_n 31 0 dX6_kind_30 rfl rfl (by decide) rfl ?_
        refine x_getR 34 8 24 dX6_kind_31 rfl fX6_55 rfl rfl rfl ?_
        refine x_sipush 37 dX6_kind_34 rfl (by decide) ?_
        refine x_vv 40 [_] (c_bstart _ (by omega)) mX0_start kX6_189 dX6_kind_37 rfl rfl ⟨by decide, rfl⟩ rfl rfl (Nat.le_of_ble_eq_true rfl) (by decide) (fun M0 q0 => ?_)
        subst q0
        refine x_iconst 41 dX6_kind_40 rfl ?_
        refine x_istore 43 4 _ dX6_kind_41 rfl (by decide) rfl rfl ?_
        refine loop 5 0 _ (by omega) (by omega) (((SF.rf M).up _ _ _ (by unfold Scr; omega)).up _ _ _ (by unfold Scr; omega)) ⟨?_, ?_⟩
        · rw [up2_k _ _ _ (by omega), up2_s]; rfl
        · rw [up2_s]; rfl
      · refine x_iconst 29 dX6_kind_28 rfl ?_
        refine x_iret dX6_kind_29 rfl ⟨rfl, Nat.le_refl _⟩ (qi_i ?_)
        refine PC.same hC ?_
        unfold aKind; rw [if_neg (by omega)]
