theorem low_pr {v : LV} {a n : Nat} (ha : a ≤ 12672000000000) (hn : n ≤ 8) : a ≤ 9223372036854775807 ∧ (10 ^ n : Nat) ≤ 9223372036854775807 ∧ 0 < (10 ^ n : Nat) ∧ a * 10 ^ n < 633825300114114700748351602688 := by
  have h := p8 hn
  have h2 : a * 10 ^ n ≤ 12672000000000 * 100000000 := Nat.mul_le_mul ha h.1
  omega

set_option maxHeartbeats 4000000 in
theorem p_luck {g : GG} {M : Mem} {s : ST} (hC : Cls M s) (hO : SOK s) (v t n w : Int) (hv : -2147483648 ≤ v ∧ v ≤ 2147483647) (ht : -2147483648 ≤ t ∧ t ≤ 2147483647) (hn : -2147483648 ≤ n ∧ n ≤ 2147483647) (hw : -2147483648 ≤ w ∧ w ≤ 2147483647) : CL g tX6_luck 6 [rv g 0, iv v, iv t, iv n, iv w] M (PC M (aLuck s v t n w) s) := by
  refine Con.of [some (rv g 0), some (iv v), some (iv t), some (iv n), some (iv w), none, none, none] (by decide +kernel) rfl (Nat.le_of_ble_eq_true rfl) ?_
  obtain ⟨hV, ⟨hk0, hk1, hi0, hi1⟩, ⟨hT1, hT2⟩, ⟨hS1, hS2⟩, hZ, hN, hF⟩ := id hC
  obtain ⟨oV, oW, oI0, oI1, oT, oTb, oS, oSb, oZ⟩ := id hO
  obtain ⟨e6, e7, e8, e4, e5⟩ := id hV
  have o1 := oV.1
  have o2 := oV.2.1
  have o3 := oV.2.2.1
  refine x_iload_n 1 1 dX6_luck_0 rfl rfl (by decide) rfl ?_
  refine x_bipush 3 dX6_luck_1 rfl (by decide) ?_
  refine x_sp 6 [_, _] (c_within _ _ (by omega) (by omega)) mX6_within kX6_70 dX6_luck_3 rfl rfl rfl (Nat.le_of_ble_eq_true rfl) (by decide) ?_
  refine x_ifeq_b 38 9 dX6_luck_6 (by decide) rfl (fun h6 => ?_) (fun h6 => ?_)
  · refine x_ldc2 41 (-1) qX6_217 dX6_luck_38 rfl ?_
    refine x_lret dX6_luck_41 rfl ⟨rfl, Nat.le_refl _⟩ (ql_i ?_)
    refine PC.same hC ?_
    unfold aLuck; rw [if_neg (by omega)]
  · refine x_aload_n 10 0 dX6_luck_9 rfl rfl (by decide) rfl ?_
    refine x_getR 13 2 4 dX6_luck_10 rfl fX6_24 rfl rfl rfl ?_
    refine x_iload_n 14 2 dX6_luck_13 rfl rfl (by decide) rfl ?_
    refine x_vp 17 [_] (c_hasTown (o := 4) (Or.inl rfl) t ht) mX1_hasTown kX6_120 dX6_luck_14 rfl rfl ⟨by decide, rfl⟩ rfl rfl (Nat.le_of_ble_eq_true rfl) (by decide) ?_
    refine x_ifeq_b 38 20 dX6_luck_17 (by decide) rfl (fun h17 => ?_) (fun h17 => ?_)
    · refine x_ldc2 41 (-1) qX6_217 dX6_luck_38 rfl ?_
      refine x_lret dX6_luck_41 rfl ⟨rfl, Nat.le_refl _⟩ (ql_i ?_)
      refine PC.same hC ?_
      unfold aLuck; rw [if_neg (by omega)]
    · refine x_iload_n 21 3 dX6_luck_20 rfl rfl (by decide) rfl ?_
      refine x_bipush 23 dX6_luck_21 rfl (by decide) ?_
      refine x_sp 26 [_, _] (c_within _ _ (by omega) (by omega)) mX6_within kX6_70 dX6_luck_23 rfl rfl rfl (Nat.le_of_ble_eq_true rfl) (by decide) ?_
      refine x_ifeq_b 38 29 dX6_luck_26 (by decide) rfl (fun h26 => ?_) (fun h26 => ?_)
      · refine x_ldc2 41 (-1) qX6_217 dX6_luck_38 rfl ?_
        refine x_lret dX6_luck_41 rfl ⟨rfl, Nat.le_refl _⟩ (ql_i ?_)
        refine PC.same hC ?_
        unfold aLuck; rw [if_neg (by omega)]
      · refine x_iload 31 4 dX6_luck_29 rfl (by decide) rfl ?_
        refine x_iconst 32 dX6_luck_31 rfl ?_
        refine x_sp 35 [_, _] (c_within _ _ (by omega) (by omega)) mX6_within kX6_70 dX6_luck_32 rfl rfl rfl (Nat.le_of_ble_eq_true rfl) (by decide) ?_
        refine x_ifne_b 42 38 dX6_luck_35 (by decide) rfl (fun h35 => ?_) (fun h35 => ?_)
        · obtain ⟨N, rfl⟩ := Int.eq_ofNat_of_zero_le (show 0 ≤ n by omega)
          obtain ⟨V, rfl⟩ := Int.eq_ofNat_of_zero_le (show 0 ≤ v by omega)
          have hp8 := p8 (n := N) (by omega)
          have hVb : V ≤ 10 := by omega
          have h2p : 0 < 2 ^ N := Nat.pow_pos (by omega)
          have loop : ∀ (m k : Nat) (M2 : Mem), 2 ^ N - k < m → k ≤ 2 ^ N → SF M M2 → X g tX6_luck (kk0 6) 48 [some (rv g 0), some (iv V), some (iv t), some (iv N), some (iv w), some (jv ((luS (sV s) V t N k : Nat) : Int)), none, some (iv k)] [] (S0, R0, M2) (QL (PC M (aLuck s V t N w) s)) := by
            intro m
            induction m with
            | zero => intro k M2 k1 k2; omega
            | succ m ih =>
              intro k M2 k1 k2 hSF
              have hV2 := hSF.R4 hV
              have hxo := rnX_or (sV s) t k N
              have hst : luS (sV s) V t N (k + 1) = luS (sV s) V t N k + (if rnX (sV s) t k N = 1 then wgN V N k else 0) := rfl
              refine x_iload 50 7 dX6_luck_48 rfl (by decide) rfl ?_
              refine x_iconst 51 dX6_luck_50 rfl ?_
              refine x_iload_n 52 3 dX6_luck_51 rfl rfl (by decide) rfl ?_
              refine x_ishl 53 ((2 ^ N : Nat) : Int) dX6_luck_52 rfl (shl1 (by omega)) ?_
              refine x_icmp_ge 85 56 dX6_luck_53 (by decide) rfl (by omega) (fun h53 => ?_) (fun h53 => ?_)
              · refine x_lload 87 5 dX6_luck_85 rfl (by decide) rfl ?_
                refine x_bipush 89 dX6_luck_87 rfl (by decide) ?_
                refine x_iload_n 90 3 dX6_luck_89 rfl rfl (by decide) rfl ?_
                refine x_sj 93 [_, _] (c_power 10 N (by omega) (by omega)) mX6_power kX6_227 dX6_luck_90 rfl rfl rfl (Nat.le_of_ble_eq_true rfl) (by decide) ?_
                rw [show (10 : Int) ^ N = ((10 ^ N : Nat) : Int) by rw [Int.natCast_pow]; rfl]
                have e : k = 2 ^ N := by omega
                subst e
                have hle := luS_le (sV s) hVb (show N ≤ 8 by omega) t (2 ^ N)
                have hl := low_pr (v := sV s) (a := luS (sV s) V t N (2 ^ N)) (n := N) (by omega) (by omega)
                refine x_iload 95 4 dX6_luck_93 rfl (by decide) rfl ?_
                refine x_sj 98 [_, _, _] (c_lowest (luS (sV s) V t N (2 ^ N)) (10 ^ N) w (by omega) hl.1 hl.2.1 hl.2.2.1 hl.2.2.2) mX6_lowest kX6_231 dX6_luck_95 rfl rfl rfl (Nat.le_of_ble_eq_true rfl) (by decide) ?_
                refine x_lret dX6_luck_98 rfl ⟨rfl, Nat.le_refl _⟩ (ql_i ?_)
                refine PC.scr hC ?_ hSF
                unfold aLuck; rw [if_pos (by omega), Int.toNat_natCast, Int.toNat_natCast]
              · refine x_aload_n 57 0 dX6_luck_56 rfl rfl (by decide) rfl ?_
                refine x_iload_n 58 2 dX6_luck_57 rfl rfl (by decide) rfl ?_
                refine x_iload_n 59 3 dX6_luck_58 rfl rfl (by decide) rfl ?_
                refine x_iload 61 7 dX6_luck_59 rfl (by decide) rfl ?_
                refine x_vi 64 [_, _, _] (c_rain hV2 oV (by omega) t ht N k (by omega) (by omega)) mX6_losesInRain kX6_219 dX6_luck_61 rfl rfl ⟨by decide, rfl⟩ rfl rfl (Nat.le_of_ble_eq_true rfl) (by decide) (fun r3 M3 q3 => ?_)
                obtain ⟨rfl, hR3, hF3⟩ := q3
                refine x_if_eq 79 67 dX6_luck_64 (by decide) rfl (by omega) (fun h64 => ?_) (fun h64 => ?_)
                · refine x_iinc 82 _ dX6_luck_79 rfl (by decide) rfl rfl rfl ?_
                  refine x_goto 48 dX6_luck_82 (by decide) ?_
                  have e0 := ih (k + 1) _ (by omega) (by omega) (hSF.tr (SF.of hF3))
                  rw [hst] at e0
                  first
                    | (rw [if_pos (by omega), Int.natCast_add, ← wgt_n hVb] at e0
                       exact e0)
                    | (rw [if_neg (by omega)] at e0
                       exact e0)
                · refine x_lload 69 5 dX6_luck_67 rfl (by decide) rfl ?_
                  refine x_iload_n 70 1 dX6_luck_69 rfl rfl (by decide) rfl ?_
                  refine x_iload_n 71 3 dX6_luck_70 rfl rfl (by decide) rfl ?_
                  refine x_iload 73 7 dX6_luck_71 rfl (by decide) rfl ?_
                  refine x_sj 76 [_, _, _] (c_weight V N k (by omega) (by omega) (by omega)) mX6_weight kX6_223 dX6_luck_73 rfl rfl rfl (Nat.le_of_ble_eq_true rfl) (by decide) ?_
                  refine x_ladd 77 dX6_luck_76 rfl ?_
                  refine x_lstore 79 5 _ dX6_luck_77 rfl (by decide) rfl rfl ?_
                  refine x_iinc 82 _ dX6_luck_79 rfl (by decide) rfl rfl rfl ?_
                  refine x_goto 48 dX6_luck_82 (by decide) ?_
                  have e0 := ih (k + 1) _ (by omega) (by omega) (hSF.tr (SF.of hF3))
                  rw [hst] at e0
                  first
                    | (rw [if_pos (by omega), Int.natCast_add, ← wgt_n hVb] at e0
                       exact e0)
                    | (rw [if_neg (by omega)] at e0
                       exact e0)
          refine x_lconst 43 dX6_luck_42 rfl 0 rfl ?_
          refine x_lstore 45 5 _ dX6_luck_43 rfl (by decide) rfl rfl ?_
          refine x_iconst 46 dX6_luck_45 rfl ?_
          refine x_istore 48 7 _ dX6_luck_46 rfl (by decide) rfl rfl ?_
          exact loop (2 ^ N + 1) 0 M (by omega) (by omega) (SF.rf M)
        · refine x_ldc2 41 (-1) qX6_217 dX6_luck_38 rfl ?_
          refine x_lret dX6_luck_41 rfl ⟨rfl, Nat.le_refl _⟩ (ql_i ?_)
          refine PC.same hC ?_
          unfold aLuck; rw [if_neg (by omega)]

set_option maxHeartbeats 4000000 in
theorem p_mean {g : GG} {M : Mem} {s : ST} (hC : Cls M s) (hO : SOK s) (v n w : Int) (hv : -2147483648 ≤ v ∧ v ≤ 2147483647) (hn : -2147483648 ≤ n ∧ n ≤ 2147483647) (hw : -2147483648 ≤ w ∧ w ≤ 2147483647) : CL g tX6_mean 6 [rv g 0, iv v, iv n, iv w] M (PC M (aMean s v n w) s) := by
  refine Con.of [some (rv g 0), some (iv v), some (iv n), some (iv w), none, none, none] (by decide +kernel) rfl (Nat.le_of_ble_eq_true rfl) ?_
  obtain ⟨hV, ⟨hk0, hk1, hi0, hi1⟩, ⟨hT1, hT2⟩, ⟨hS1, hS2⟩, hZ, hN, hF⟩ := id hC
  obtain ⟨oV, oW, oI0, oI1, oT, oTb, oS, oSb, oZ⟩ := id hO
  obtain ⟨e6, e7, e8, e4, e5⟩ := id hV
  have o1 := oV.1
  have o2 := oV.2.1
  have o3 := oV.2.2.1
  refine x_iload_n 1 1 dX6_mean_0 rfl rfl (by decide) rfl ?_
  refine x_bipush 3 dX6_mean_1 rfl (by decide) ?_
  refine x_sp 6 [_, _] (c_within _ _ (by omega) (by omega)) mX6_within kX6_70 dX6_mean_3 rfl rfl rfl (Nat.le_of_ble_eq_true rfl) (by decide) ?_
  refine x_ifeq_b 26 9 dX6_mean_6 (by decide) rfl (fun h6 => ?_) (fun h6 => ?_)
  · refine x_ldc2 29 (-1) qX6_217 dX6_mean_26 rfl ?_
    refine x_lret dX6_mean_29 rfl ⟨rfl, Nat.le_refl _⟩ (ql_i ?_)
    refine PC.same hC ?_
    unfold aMean; rw [if_neg (by omega)]
  · refine x_iload_n 10 2 dX6_mean_9 rfl rfl (by decide) rfl ?_
    refine x_bipush 12 dX6_mean_10 rfl (by decide) ?_
    refine x_sp 15 [_, _] (c_within _ _ (by omega) (by omega)) mX6_within kX6_70 dX6_mean_12 rfl rfl rfl (Nat.le_of_ble_eq_true rfl) (by decide) ?_
    refine x_ifeq_b 26 18 dX6_mean_15 (by decide) rfl (fun h15 => ?_) (fun h15 => ?_)
    · refine x_ldc2 29 (-1) qX6_217 dX6_mean_26 rfl ?_
      refine x_lret dX6_mean_29 rfl ⟨rfl, Nat.le_refl _⟩ (ql_i ?_)
      refine PC.same hC ?_
      unfold aMean; rw [if_neg (by omega)]
    · refine x_iload_n 19 3 dX6_mean_18 rfl rfl (by decide) rfl ?_
      refine x_iconst 20 dX6_mean_19 rfl ?_
      refine x_sp 23 [_, _] (c_within _ _ (by omega) (by omega)) mX6_within kX6_70 dX6_mean_20 rfl rfl rfl (Nat.le_of_ble_eq_true rfl) (by decide) ?_
      refine x_ifne_b 30 26 dX6_mean_23 (by decide) rfl (fun h23 => ?_) (fun h23 => ?_)
      · obtain ⟨N, rfl⟩ := Int.eq_ofNat_of_zero_le (show 0 ≤ n by omega)
        obtain ⟨V, rfl⟩ := Int.eq_ofNat_of_zero_le (show 0 ≤ v by omega)
        have hp8 := p8 (n := N) (by omega)
        have hVb : V ≤ 10 := by omega
        have h2p : 0 < 2 ^ N := Nat.pow_pos (by omega)
        have loop : ∀ (m k : Nat) (M2 : Mem), 2 ^ N - k < m → k ≤ 2 ^ N → SF M M2 → X g tX6_mean (kk0 6) 36 [some (rv g 0), some (iv V), some (iv N), some (iv w), some (jv ((meS (sV s) V N k : Nat) : Int)), none, some (iv k)] [] (S0, R0, M2) (QL (PC M (aMean s V N w) s)) := by
          intro m
          induction m with
          | zero => intro k M2 k1 k2; omega
          | succ m ih =>
            intro k M2 k1 k2 hSF
            have hV2 := hSF.R4 hV
            have hwf := rnV_WF oV k N
            have ob := owed_bd hwf
            have hst : meS (sV s) V N (k + 1) = meS (sV s) V N k + (owed (rnV (sV s) k N)).toNat * wgN V N k := rfl
            refine x_iload 38 6 dX6_mean_36 rfl (by decide) rfl ?_
            refine x_iconst 39 dX6_mean_38 rfl ?_
            refine x_iload_n 40 2 dX6_mean_39 rfl rfl (by decide) rfl ?_
            refine x_ishl 41 ((2 ^ N : Nat) : Int) dX6_mean_40 rfl (shl1 (by omega)) ?_
            refine x_icmp_ge 81 44 dX6_mean_41 (by decide) rfl (by omega) (fun h41 => ?_) (fun h41 => ?_)
            · refine x_lload 83 4 dX6_mean_81 rfl (by decide) rfl ?_
              refine x_bipush 85 dX6_mean_83 rfl (by decide) ?_
              refine x_iload_n 86 2 dX6_mean_85 rfl rfl (by decide) rfl ?_
              refine x_sj 89 [_, _] (c_power 10 N (by omega) (by omega)) mX6_power kX6_227 dX6_mean_86 rfl rfl rfl (Nat.le_of_ble_eq_true rfl) (by decide) ?_
              rw [show (10 : Int) ^ N = ((10 ^ N : Nat) : Int) by rw [Int.natCast_pow]; rfl]
              have e : k = 2 ^ N := by omega
              subst e
              have hle := meS_le (v := sV s) oV hVb (show N ≤ 8 by omega) (2 ^ N)
              have hl := low_pr (v := sV s) (a := meS (sV s) V N (2 ^ N)) (n := N) (by omega) (by omega)
              refine x_iload_n 90 3 dX6_mean_89 rfl rfl (by decide) rfl ?_
              refine x_sj 93 [_, _, _] (c_lowest (meS (sV s) V N (2 ^ N)) (10 ^ N) w (by omega) hl.1 hl.2.1 hl.2.2.1 hl.2.2.2) mX6_lowest kX6_231 dX6_mean_90 rfl rfl rfl (Nat.le_of_ble_eq_true rfl) (by decide) ?_
              refine x_lret dX6_mean_93 rfl ⟨rfl, Nat.le_refl _⟩ (ql_i ?_)
              refine PC.scr hC ?_ hSF
              unfold aMean; rw [if_pos (by omega), Int.toNat_natCast, Int.toNat_natCast]
            · refine x_aload_n 45 0 dX6_mean_44 rfl rfl (by decide) rfl ?_
              refine x_bipush 47 dX6_mean_45 rfl (by decide) ?_
              refine x_iload_n 48 2 dX6_mean_47 rfl rfl (by decide) rfl ?_
              refine x_iload 50 6 dX6_mean_48 rfl (by decide) rfl ?_
              refine x_vi 53 [_, _, _] (c_rain hV2 oV (by omega) (-4) (by omega) N k (by omega) (by omega)) mX6_losesInRain kX6_219 dX6_mean_50 rfl rfl ⟨by decide, rfl⟩ rfl rfl (Nat.le_of_ble_eq_true rfl) (by decide) (fun r3 M3 q3 => ?_)
              obtain ⟨rfl, hR3, hF3⟩ := q3
              refine x_pop 54 dX6_mean_53 rfl rfl ?_
              refine x_lload 56 4 dX6_mean_54 rfl (by decide) rfl ?_
              refine x_aload_n 57 0 dX6_mean_56 rfl rfl (by decide) rfl ?_
              refine x_getR 60 3 11 dX6_mean_57 rfl fX6_28 rfl rfl rfl ?_
              refine x_vp 63 [] (c_owed (o := 11) (Or.inr (Or.inl rfl)) hR3 hwf) mX1_owed kX6_117 dX6_mean_60 rfl rfl ⟨by decide, rfl⟩ rfl rfl (Nat.le_of_ble_eq_true rfl) (by decide) ?_
              refine x_i2l 64 dX6_mean_63 rfl (by omega) ?_
              refine x_iload_n 65 1 dX6_mean_64 rfl rfl (by decide) rfl ?_
              refine x_iload_n 66 2 dX6_mean_65 rfl rfl (by decide) rfl ?_
              refine x_iload 68 6 dX6_mean_66 rfl (by decide) rfl ?_
              refine x_sj 71 [_, _, _] (c_weight V N k (by omega) (by omega) (by omega)) mX6_weight kX6_223 dX6_mean_68 rfl rfl rfl (Nat.le_of_ble_eq_true rfl) (by decide) ?_
              refine x_lmul 72 dX6_mean_71 rfl ?_
              refine x_ladd 73 dX6_mean_72 rfl ?_
              refine x_lstore 75 4 _ dX6_mean_73 rfl (by decide) rfl rfl ?_
              refine x_iinc 78 _ dX6_mean_75 rfl (by decide) rfl rfl rfl ?_
              refine x_goto 36 dX6_mean_78 (by decide) ?_
              rw [wgt_n hVb, show owed (rnV (sV s) k N) = (((owed (rnV (sV s) k N)).toNat : Nat) : Int) by omega, ← Int.natCast_mul, ← Int.natCast_add, ← hst]
              exact ih (k + 1) _ (by omega) (by omega) (hSF.tr (SF.of hF3))
        refine x_lconst 31 dX6_mean_30 rfl 0 rfl ?_
        refine x_lstore 33 4 _ dX6_mean_31 rfl (by decide) rfl rfl ?_
        refine x_iconst 34 dX6_mean_33 rfl ?_
        refine x_istore 36 6 _ dX6_mean_34 rfl (by decide) rfl rfl ?_
        exact loop (2 ^ N + 1) 0 M (by omega) (by omega) (SF.rf M)
      · refine x_ldc2 29 (-1) qX6_217 dX6_mean_26 rfl ?_
        refine x_lret dX6_mean_29 rfl ⟨rfl, Nat.le_refl _⟩ (ql_i ?_)
        refine PC.same hC ?_
        unfold aMean; rw [if_neg (by omega)]
