theorem tN (x : Int32) : x.toInt = if 2 * x.toBitVec.toNat < 4294967296 then (x.toBitVec.toNat : Int) else (x.toBitVec.toNat : Int) - 4294967296 := by
  show x.toBitVec.toInt = _
  rw [BitVec.toInt_eq_toNat_cond]; rfl
theorem got_1 (d : Int32) : Int32.ofInt d.toInt >>> (Int32.ofInt 16 &&& 31) = Int32.ofInt (d.toInt / 65536) := by
  apply Int32.toInt_inj.mp
  have hd := i32_rng d
  rw [Int32.ofInt_toInt, pk_shr _ _ 16 (by decide), Int.shiftRight_eq_div_pow, iT (by omega) (by omega)]
  rfl
theorem got_2 (d : Int32) : Int32.ofInt (d.toInt / 65536) &&& Int32.ofInt 32767 = Int32.ofInt ((gotN d : Nat) : Int) := by
  have hd := i32_rng d
  have h1 := tN d
  have h2 := tN (Int32.ofInt (d.toInt / 65536))
  rw [iT (x := d.toInt / 65536) (by omega) (by omega)] at h2
  have h3 := d.toBitVec.isLt
  have h4 := (Int32.ofInt (d.toInt / 65536)).toBitVec.isLt
  rw [pk_and _ 15 (by decide), iN]
  unfold gotN
  have e : (Int32.ofInt (d.toInt / 65536)).toBitVec.toNat % 2 ^ 15 = d.toBitVec.toNat / 65536 % 32768 := by
    generalize (Int32.ofInt (d.toInt / 65536)).toBitVec.toNat = N at h2 h4 ⊢
    generalize d.toBitVec.toNat = n at h1 h3 ⊢
    generalize d.toInt = q at h1 h2 hd
    split at h1 <;> split at h2 <;> omega
  rw [e]
theorem sls24 (x : Int32) : (x <<< (Int32.ofInt 24 &&& 31)) >>> (Int32.ofInt 24 &&& 31) = x.toInt8.toInt32 := by
  apply Int32.toInt_inj.mp
  have h1 := tN x
  have h2 := tN (x <<< (Int32.ofInt 24 &&& 31))
  rw [pk_shl _ _ 24 (by decide)] at h2
  have h3 := x.toBitVec.isLt
  rw [pk_shr _ _ 24 (by decide), Int.shiftRight_eq_div_pow, lg_i2b_toInt]
  generalize (x <<< (Int32.ofInt 24 &&& 31)).toInt = y at h2 ⊢
  generalize x.toInt = z at h1 ⊢
  generalize x.toBitVec.toNat = n at h1 h2 h3
  unfold Int.bmod
  show y / ((2 ^ 24 : Nat) : Int) = if z % ((2 ^ 8 : Nat) : Int) < (((2 ^ 8 : Nat) : Int) + 1) / 2 then z % ((2 ^ 8 : Nat) : Int) else z % ((2 ^ 8 : Nat) : Int) - ((2 ^ 8 : Nat) : Int)
  split at h1 <;> split at h2 <;> split <;> omega
theorem sls16 (x : Int32) : (x <<< (Int32.ofInt 16 &&& 31)) >>> (Int32.ofInt 16 &&& 31) = x.toInt16.toInt32 := by
  apply Int32.toInt_inj.mp
  have h1 := tN x
  have h2 := tN (x <<< (Int32.ofInt 16 &&& 31))
  rw [pk_shl _ _ 16 (by decide)] at h2
  have h3 := x.toBitVec.isLt
  rw [pk_shr _ _ 16 (by decide), Int.shiftRight_eq_div_pow, lg_i2s_toInt]
  generalize (x <<< (Int32.ofInt 16 &&& 31)).toInt = y at h2 ⊢
  generalize x.toInt = z at h1 ⊢
  generalize x.toBitVec.toNat = n at h1 h2 h3
  unfold Int.bmod
  show y / ((2 ^ 16 : Nat) : Int) = if z % ((2 ^ 16 : Nat) : Int) < (((2 ^ 16 : Nat) : Int) + 1) / 2 then z % ((2 ^ 16 : Nat) : Int) else z % ((2 ^ 16 : Nat) : Int) - ((2 ^ 16 : Nat) : Int)
  split at h1 <;> split at h2 <;> split <;> omega
theorem wkV_1 (v : LV) : wkV v 1 = pass v := by
  unfold wkV; rw [if_neg (by omega)]
theorem drL_s (v : LV) (x : Int32) (k : Nat) : drL v x (k + 1) = drL v x k + (if 0 ≤ weaker (drV v x k) (drA (dsd x (k + 1)) (vn v)) (drB (dsd x (k + 1)) (vn v)) then 1 else 0) := rfl

set_option maxHeartbeats 4000000 in
theorem r_drift {g : GG} {M : Mem} {s : ST} (hC : Mdl M s) (hO : SOK s) (x n w : Int) (hx : -2147483648 ≤ x ∧ x ≤ 2147483647) (hn : -2147483648 ≤ n ∧ n ≤ 2147483647) (hw : -2147483648 ≤ w ∧ w ≤ 2147483647) : CI g tX7_drift 4 [rv g 50, iv x, iv n, iv w] M (PM M (aDrift s x n w) s) := by
  refine Con.of [some (rv g 50), some (iv x), some (iv n), some (iv w), none, none, none, none] (by decide +kernel) rfl (Nat.le_of_ble_eq_true rfl) ?_
  obtain ⟨hV, ⟨hk0, hk1, hi0, hi1⟩, ⟨hT1, hT2⟩, ⟨hS1, hS2⟩, hZ, hN, hF, hKs, hMC⟩ := id hC
  obtain ⟨oV, oW, oI0, oI1, oT, oTb, oS, oSb, oZ⟩ := id hO
  have e1 : M 50 1 = vn (sV s) := hV.2.1
  have e40 : M 51 40 = vf (sV s) := hV.F (by omega)
  have e41 : M 51 41 = vw (sV s) := hV.W (by omega)
  have o1 := oV.1
  have o2 := oV.2.1
  have o3 := oV.2.2.1
  refine x_iload_n 1 2 dX7_drift_0 rfl rfl (by decide) rfl ?_
  refine x_i2l 2 dX7_drift_1 rfl (by omega) ?_
  refine x_lconst 3 dX7_drift_2 rfl 1 rfl ?_
  refine x_ldc2 6 60 qX7_199 dX7_drift_3 rfl ?_
  refine x_sp 9 [_, _, _] (m_in _ _ _ (by omega) (by omega) (by omega)) mX7_in kX7_53 dX7_drift_6 rfl rfl rfl (Nat.le_of_ble_eq_true rfl) (by decide) ?_
  refine x_ifeq_b 22 12 dX7_drift_9 (by decide) rfl (fun h9 => ?_) (fun h9 => ?_)
  · refine x_iconst 23 dX7_drift_22 rfl ?_
    refine x_iret dX7_drift_23 rfl ⟨rfl, Nat.le_refl _⟩ (qi_i ?_)
    refine PM.same hC ?_
    unfold aDrift; rw [if_neg (by omega)]
  · refine x_iload_n 13 3 dX7_drift_12 rfl rfl (by decide) rfl ?_
    refine x_i2l 14 dX7_drift_13 rfl (by omega) ?_
    refine x_lconst 15 dX7_drift_14 rfl 0 rfl ?_
    refine x_lconst 16 dX7_drift_15 rfl 1 rfl ?_
    refine x_sp 19 [_, _, _] (m_in _ _ _ (by omega) (by omega) (by omega)) mX7_in kX7_53 dX7_drift_16 rfl rfl rfl (Nat.le_of_ble_eq_true rfl) (by decide) ?_
    refine x_ifne_b 24 22 dX7_drift_19 (by decide) rfl (fun h19 => ?_) (fun h19 => ?_)
    · refine x_aload_n 25 0 dX7_drift_24 rfl rfl (by decide) rfl ?_
      refine x_getI 28 1 1 rfl dX7_drift_25 rfl fX7_125 rfl rfl (fun g25 => ?_)
      rw [e1]
      refine x_iconst 29 dX7_drift_28 rfl ?_
      refine x_icmp_ge 35 32 dX7_drift_29 (by decide) rfl (by omega) (fun h29 => ?_) (fun h29 => ?_)
      · obtain ⟨N, rfl⟩ := Int.eq_ofNat_of_zero_le (show 0 ≤ n by omega)
        have hn2 : 2 ≤ vn (sV s) := by omega
        have loop : ∀ (m k : Nat) (M2 : Mem) (j6 j7 : Option Value), N - k < m → k ≤ N → RP M2 168 (drV (sV s) (Int32.ofInt x) k) → FP 168 M M2 → M2 50 17 = drL (sV s) (Int32.ofInt x) k → X g tX7_drift (kk0 4) 54 [some (rv g 50), some (iv x), some (iv N), some (iv w), some (iv (dsd (Int32.ofInt x) k).toInt), some (iv k), j6, j7] [] (S0, R0, M2) (QI (PM M (aDrift s x N w) s)) := by
          intro m
          induction m with
          | zero => intro k M2 j6 j7 k1 k2; omega
          | succ m ih =>
            intro k M2 j6 j7 k1 k2 hR2 hF2 d17
            have hwf := drV_WF oV hn2 (Int32.ofInt x) k
            have hdn := drV_n (sV s) (Int32.ofInt x) k
            have hdw := drV_w (sV s) (Int32.ofInt x) k
            have hin := dr_in (dsd (Int32.ofInt x) (k + 1)) (n := vn (sV s)) (by omega)
            have hgb := gotN_b (dsd (Int32.ofInt x) (k + 1))
            have hlb := drL_bd (sV s) (Int32.ofInt x) k
            have hls := drL_s (sV s) (Int32.ofInt x) k
            have d1 : M2 50 1 = vn (sV s) := (hF2.2.1 1 (by omega) (by omega) (by omega)).trans e1
            have d19 : M2 50 19 = -4 := (hF2.2.1 19 (by omega) (by omega) (by omega)).trans hKs
            refine x_iload 56 5 dX7_drift_54 rfl (by decide) rfl ?_
            refine x_iload_n 57 2 dX7_drift_56 rfl rfl (by decide) rfl ?_
            refine x_icmp_ge 136 60 dX7_drift_57 (by decide) rfl (by omega) (fun h57 => ?_) (fun h57 => ?_)
            · refine x_iload_n 137 3 dX7_drift_136 rfl rfl (by decide) rfl ?_
              refine x_if_ne 150 140 dX7_drift_137 (by decide) rfl (by omega) (fun h137 => ?_) (fun h137 => ?_)
              · refine x_aload_n 151 0 dX7_drift_150 rfl rfl (by decide) rfl ?_
                refine x_getI 154 17 17 rfl dX7_drift_151 rfl fX7_148 rfl rfl (fun g151 => ?_)
                refine x_iret dX7_drift_154 rfl ⟨rfl, Nat.le_refl _⟩ (qi_i ?_)
                have ek : k = N := by omega
                subst ek
                refine PM.scr hC ?_ (SM.of hF2 (by omega))
                have y : aDrift s x k w = (if w = 0 then owed (drV (sV s) (Int32.ofInt x) k) else drL (sV s) (Int32.ofInt x) k) := by (unfold aDrift; rw [if_pos (by omega), if_neg (by omega), Int.toNat_natCast])
                rw [y]
                first | (rw [if_pos (by omega)]; done) | (rw [if_neg (by omega)]; exact d17)
              · refine x_aload_n 141 0 dX7_drift_140 rfl rfl (by decide) rfl ?_
                refine x_sipush 144 dX7_drift_141 rfl (by decide) ?_
                refine x_vp 147 [_] (m_owedOn (show 0 ≤ (168 : Int) ∧ (168 : Int) ≤ 210 by omega) hR2 hwf) mX7_owedOn kX7_164 dX7_drift_144 rfl rfl ⟨by decide, rfl⟩ rfl rfl (Nat.le_of_ble_eq_true rfl) (by decide) ?_
                refine x_goto 154 dX7_drift_147 (by decide) ?_
                refine x_iret dX7_drift_154 rfl ⟨rfl, Nat.le_refl _⟩ (qi_i ?_)
                have ek : k = N := by omega
                subst ek
                refine PM.scr hC ?_ (SM.of hF2 (by omega))
                have y : aDrift s x k w = (if w = 0 then owed (drV (sV s) (Int32.ofInt x) k) else drL (sV s) (Int32.ofInt x) k) := by (unfold aDrift; rw [if_pos (by omega), if_neg (by omega), Int.toNat_natCast])
                rw [y]
                first | (rw [if_pos (by omega)]; done) | (rw [if_neg (by omega)]; exact d17)
            · refine x_iload 62 4 dX7_drift_60 rfl (by decide) rfl ?_
              refine x_ldc 64 1103515245 qX7_235 dX7_drift_62 rfl ?_
              refine x_imul 65 dX7_drift_64 rfl ?_
              refine x_sipush 68 dX7_drift_65 rfl (by decide) ?_
              refine x_iadd 69 dX7_drift_68 rfl ?_
              refine x_cv (z := (dsd (Int32.ofInt x) (k + 1)).toInt) (by rw [Int32.ofInt_toInt, dsd_s]) ?_
              refine x_istore 71 4 _ dX7_drift_69 rfl (by decide) rfl rfl ?_
              refine x_iload 73 4 dX7_drift_71 rfl (by decide) rfl ?_
              refine x_bipush 75 dX7_drift_73 rfl (by decide) ?_
              refine x_ishr 76 ((dsd (Int32.ofInt x) (k + 1)).toInt / 65536) dX7_drift_75 rfl (got_1 _) ?_
              refine x_sipush 79 dX7_drift_76 rfl (by decide) ?_
              refine x_iand 80 ((gotN (dsd (Int32.ofInt x) (k + 1)) : Nat) : Int) dX7_drift_79 rfl (got_2 _) ?_
              refine x_istore 82 6 _ dX7_drift_80 rfl (by decide) rfl rfl ?_
              refine x_iload 84 6 dX7_drift_82 rfl (by decide) rfl ?_
              refine x_aload_n 85 0 dX7_drift_84 rfl rfl (by decide) rfl ?_
              refine x_getI 88 1 1 rfl dX7_drift_85 rfl fX7_125 rfl rfl (fun g85 => ?_)
              rw [d1]
              refine x_irem 89 dX7_drift_88 rfl (by omega) ?_
              rw [show ((gotN (dsd (Int32.ofInt x) (k + 1)) : Nat) : Int) % vn (sV s) = drA (dsd (Int32.ofInt x) (k + 1)) (vn (sV s)) from rfl]
              refine x_istore 91 7 _ dX7_drift_89 rfl (by decide) rfl rfl ?_
              refine x_aload_n 92 0 dX7_drift_91 rfl rfl (by decide) rfl ?_
              refine x_sipush 95 dX7_drift_92 rfl (by decide) ?_
              refine x_iload 97 7 dX7_drift_95 rfl (by decide) rfl ?_
              refine x_iload 99 7 dX7_drift_97 rfl (by decide) rfl ?_
              refine x_iconst 100 dX7_drift_99 rfl ?_
              refine x_iadd 101 dX7_drift_100 rfl ?_
              refine x_iload 103 6 dX7_drift_101 rfl (by decide) rfl ?_
              refine x_bipush 105 dX7_drift_103 rfl (by decide) ?_
              refine x_idiv 106 dX7_drift_105 rfl (by omega) ?_
              refine x_aload_n 107 0 dX7_drift_106 rfl rfl (by decide) rfl ?_
              refine x_getI 110 1 1 rfl dX7_drift_107 rfl fX7_125 rfl rfl (fun g107 => ?_)
              rw [d1]
              refine x_iconst 111 dX7_drift_110 rfl ?_
              refine x_isub 112 dX7_drift_111 rfl ?_
              refine x_irem 113 dX7_drift_112 rfl (by omega) ?_
              refine x_iadd 114 dX7_drift_113 rfl ?_
              refine x_aload_n 115 0 dX7_drift_114 rfl rfl (by decide) rfl ?_
              refine x_getI 118 1 1 rfl dX7_drift_115 rfl fX7_125 rfl rfl (fun g115 => ?_)
              rw [d1]
              refine x_irem 119 dX7_drift_118 rfl (by omega) ?_
              rw [show (drA (dsd (Int32.ofInt x) (k + 1)) (vn (sV s)) + 1 + ((gotN (dsd (Int32.ofInt x) (k + 1)) : Nat) : Int) / 8 % (vn (sV s) - 1)) % vn (sV s) = drB (dsd (Int32.ofInt x) (k + 1)) (vn (sV s)) from rfl]
              refine x_vv 122 [_, _, _] (m_playedOn (show 0 ≤ (168 : Int) ∧ (168 : Int) ≤ 210 by omega) hR2 hwf _ _ (by rw [hdn]; exact hin.1) (by rw [hdn]; exact hin.2.1) hin.2.2.1) mX7_playedOn kX7_154 dX7_drift_119 rfl rfl ⟨by decide, rfl⟩ rfl rfl (Nat.le_of_ble_eq_true rfl) (by decide) (fun M3 q3 => ?_)
              obtain ⟨p16, p17, p18, pR, pF⟩ := q3
              have hgw := game_WF hwf (by rw [hdn]; exact hin.1) (by rw [hdn]; exact hin.2.1)
              refine x_aload_n 123 0 dX7_drift_122 rfl rfl (by decide) rfl ?_
              refine x_sipush 126 dX7_drift_123 rfl (by decide) ?_
              refine x_iconst 127 dX7_drift_126 rfl ?_
              refine x_vv 130 [_, _] (m_week (show 0 ≤ (168 : Int) ∧ (168 : Int) ≤ 210 by omega) pR hgw (by rw [vw_game]; omega) 1 (Or.inr rfl) ((pF.2.1 19 (by omega) (by omega) (by omega)).trans d19)) mX7_weekOn kX7_191 dX7_drift_127 rfl rfl ⟨by decide, rfl⟩ rfl rfl (Nat.le_of_ble_eq_true rfl) (by decide) (fun M4 q4 => ?_)
              obtain ⟨b1, b2, b3, b4, b5⟩ := q4
              refine x_iinc 133 _ dX7_drift_130 rfl (by decide) rfl rfl rfl ?_
              refine x_goto 54 dX7_drift_133 (by decide) ?_
              refine ih (k + 1) _ _ _ (by omega) (by omega) ?_ ((hF2.tr pF).tr b5) ?_
              · rw [wkV_1] at b4; exact b4
              · rw [b2, wkL_no (by omega), if_neg (by omega), p17, d17, hls]
                by_cases q : 0 ≤ weaker (drV (sV s) (Int32.ofInt x) k) (drA (dsd (Int32.ofInt x) (k + 1)) (vn (sV s))) (drB (dsd (Int32.ofInt x) (k + 1)) (vn (sV s)))
                · rw [if_pos q, if_pos q, wr_id (by omega)]
                · rw [if_neg q, if_neg q]; omega
        refine x_aload_n 36 0 dX7_drift_35 rfl rfl (by decide) rfl ?_
        refine x_iconst 37 dX7_drift_36 rfl ?_
        refine x_sipush 40 dX7_drift_37 rfl (by decide) ?_
        refine x_vv 43 [_, _] (m_copies 0 168 (by omega) (by omega) (by omega)) mX7_copies kX7_195 dX7_drift_40 rfl rfl ⟨by decide, rfl⟩ rfl rfl (Nat.le_of_ble_eq_true rfl) (by decide) (fun Mc qc => ?_)
        refine x_aload_n 44 0 dX7_drift_43 rfl rfl (by decide) rfl ?_
        refine x_iconst 45 dX7_drift_44 rfl ?_
        refine x_putI 48 17 17 rfl dX7_drift_45 rfl fX7_148 rfl rfl rfl (by omega) ?_
        refine x_iload_n 49 1 dX7_drift_48 rfl rfl (by decide) rfl ?_
        refine x_istore 51 4 _ dX7_drift_49 rfl (by decide) rfl rfl ?_
        refine x_iconst 52 dX7_drift_51 rfl ?_
        refine x_istore 54 5 _ dX7_drift_52 rfl (by decide) rfl rfl ?_
        have e0 := loop (N + 1) 0 (up2 Mc 50 17 0) none none (by omega) (by omega) ((hV.copy qc).up0 _ _ (by omega)) (qc.fp.up0 _ _ (by omega)) (up2_s _ _ _ _)
        have e2 : (dsd (Int32.ofInt x) 0).toInt = x := iT hx.1 hx.2
        rw [e2] at e0
        exact e0
      · refine x_bipush 34 dX7_drift_32 rfl (by decide) ?_
        refine x_iret dX7_drift_34 rfl ⟨rfl, Nat.le_refl _⟩ (qi_i ?_)
        refine PM.same hC ?_
        unfold aDrift; rw [if_pos (by omega), if_pos (by omega)]
    · refine x_iconst 23 dX7_drift_22 rfl ?_
      refine x_iret dX7_drift_23 rfl ⟨rfl, Nat.le_refl _⟩ (qi_i ?_)
      refine PM.same hC ?_
      unfold aDrift; rw [if_neg (by omega)]

theorem mdl_uK {M M2 : Mem} {s : ST} (h : Mdl M s) (a b : Int) (x y : LV) (eA : ∀ c, c ≠ 51 → c ≠ 59 → M2 c = M c) (e0 : ∀ k, k < 42 → M2 51 k = M 51 k) (hnew : M2 59 0 = a ∧ M2 59 1 = b ∧ (a = 1 → RP M2 42 x) ∧ (b = 1 → RP M2 84 y)) : Mdl M2 (uK s a b x y) := by
  obtain ⟨h1, -, h6, h7, h8, h9, h10, h11, h12⟩ := h
  have e5 : M2 50 = M 50 := eA 50 (by omega) (by omega)
  refine ⟨h1.keep (by rw [e5]) (fun k _ hk => e0 k (by omega)), hnew, ?_, ?_, fun k hk => ?_, ?_, ?_, ?_, h12.keep (eA 54 (by omega) (by omega)) (eA 55 (by omega) (by omega))⟩
  · rw [e5, eA 53 (by omega) (by omega)]; exact h6
  · rw [e5, eA 57 (by omega) (by omega)]; exact h7
  · rw [eA 60 (by omega) (by omega), eA 61 (by omega) (by omega), eA 62 (by omega) (by omega)]; exact h8 k hk
  · rw [e5]; exact h9
  · rw [e5]; exact h10
  · rw [e5]; exact h11

set_option maxHeartbeats 4000000 in
theorem r_keep {g : GG} {M : Mem} {s : ST} (hC : Mdl M s) (hO : SOK s) (k : Int) (hk : -2147483648 ≤ k ∧ k ≤ 2147483647) : CI g tX7_keep 1 [rv g 50, iv k] M (PM M (aKeep s k) (nKeep s k)) := by
  refine Con.of [some (rv g 50), some (iv k), none] (by decide +kernel) rfl (Nat.le_of_ble_eq_true rfl) ?_
  obtain ⟨hV, ⟨hk0, hk1, hi0, hi1⟩, ⟨hT1, hT2⟩, ⟨hS1, hS2⟩, hZ, hN, hF, hKs, hMC⟩ := id hC
  obtain ⟨oV, oW, oI0, oI1, oT, oTb, oS, oSb, oZ⟩ := id hO
  have e1 : M 50 1 = vn (sV s) := hV.2.1
  have e40 : M 51 40 = vf (sV s) := hV.F (by omega)
  have e41 : M 51 41 = vw (sV s) := hV.W (by omega)
  have o1 := oV.1
  have o2 := oV.2.1
  have o3 := oV.2.2.1
  have kb0 := oI0.1
  have kb1 := oI1.1
  have kk01 : ∀ k : Int, (k = 0 ∨ k = 1) → M 59 k = 0 ∨ M 59 k = 1 := fun k hk => by
    rcases hk with rfl | rfl
    · omega
    · omega
  refine x_iload_n 1 1 dX7_keep_0 rfl rfl (by decide) rfl ?_
  refine x_i2l 2 dX7_keep_1 rfl (by omega) ?_
  refine x_lconst 3 dX7_keep_2 rfl 0 rfl ?_
  refine x_lconst 4 dX7_keep_3 rfl 1 rfl ?_
  refine x_sp 7 [_, _, _] (m_in _ _ _ (by omega) (by omega) (by omega)) mX7_in kX7_53 dX7_keep_4 rfl rfl rfl (Nat.le_of_ble_eq_true rfl) (by decide) ?_
  refine x_ifne_b 12 10 dX7_keep_7 (by decide) rfl (fun h7 => ?_) (fun h7 => ?_)
  · refine x_aload_n 13 0 dX7_keep_12 rfl rfl (by decide) rfl ?_
    refine x_iconst 14 dX7_keep_13 rfl ?_
    refine x_bipush 16 dX7_keep_14 rfl (by decide) ?_
    refine x_iload_n 17 1 dX7_keep_16 rfl rfl (by decide) rfl ?_
    refine x_iconst 18 dX7_keep_17 rfl ?_
    refine x_iadd 19 dX7_keep_18 rfl ?_
    refine x_imul 20 dX7_keep_19 rfl ?_
    refine x_vv 23 [_, _] (m_copies 0 (42 * (k + 1)) (by omega) (by omega) (by omega)) mX7_copies kX7_195 dX7_keep_20 rfl rfl ⟨by decide, rfl⟩ rfl rfl (Nat.le_of_ble_eq_true rfl) (by decide) (fun Mc qc => ?_)
    have hRc := hV.copy qc
    have h59 : Mc 59 = M 59 := qc.1 59 (by omega)
    have kz := kk01 k (by omega)
    refine x_cut 37 (fun z => z = M 59 k) (fun tail23 => ?_) (fun z23 hz23 => ?_)
    · refine x_aload_n 24 0 dX7_keep_23 rfl rfl (by decide) rfl ?_
      refine x_getR 27 24 59 dX7_keep_24 rfl fX7_38 rfl rfl rfl ?_
      refine x_iload_n 28 1 dX7_keep_27 rfl rfl (by decide) rfl ?_
      refine x_zaload 29 dX7_keep_28 rfl rfl (by omega) (fun g28 => ?_)
      rw [h59]
      refine x_if_eq 36 32 dX7_keep_29 (by decide) rfl (by omega) (fun h29 => ?_) (fun h29 => ?_)
      · refine x_iconst 37 dX7_keep_36 rfl ?_
        exact tail23 _ (by omega)
      · refine x_iconst 33 dX7_keep_32 rfl ?_
        refine x_goto 37 dX7_keep_33 (by decide) ?_
        exact tail23 _ (by omega)
    · subst z23
      refine x_istore_n 38 2 _ dX7_keep_37 rfl rfl (by decide) rfl rfl ?_
      refine x_aload_n 39 0 dX7_keep_38 rfl rfl (by decide) rfl ?_
      refine x_getR 42 24 59 dX7_keep_39 rfl fX7_38 rfl rfl rfl ?_
      refine x_iload_n 43 1 dX7_keep_42 rfl rfl (by decide) rfl ?_
      refine x_iconst 44 dX7_keep_43 rfl ?_
      refine x_zastore 45 dX7_keep_44 rfl rfl (by omega) (by omega) (by rfl) ?_
      refine x_iload_n 46 2 dX7_keep_45 rfl rfl (by decide) rfl ?_
      refine x_iret dX7_keep_46 rfl ⟨rfl, Nat.le_refl _⟩ (qi_i ?_)
      rcases (show k = 0 ∨ k = 1 by omega) with rfl | rfl
      · have y2 : nKeep s 0 = uK s 1 (k1 s) (sV s) (i1 s) := by (unfold nKeep; rw [if_pos rfl])
        have y1 : aKeep s 0 = k0 s := by (unfold aKeep; rw [if_pos rfl])
        rw [y1, y2]
        have q42 : RP (up2 Mc 59 0 1) 42 (sV s) := RP.keep (M := Mc) (p := 42) hRc (by rw [up2_o _ _ _ (by omega)]) (fun k _ _ => by rw [up2_o _ _ _ (by omega)])
        refine ⟨hk0, mdl_uK hC _ _ _ _ (fun c h1 h2 => by rw [up2_o _ _ _ h2]; exact qc.1 c h1) (fun k hk => by rw [up2_o _ _ _ (by omega)]; exact qc.2.2 k (by omega)) ⟨up2_s _ _ _ _, by rw [up2_k _ _ _ (by omega), h59]; exact hk1, fun _ => q42, fun q => ?_⟩, fun a ha => by rw [up2_o _ _ _ (by omega)]; exact qc.1 a (by omega)⟩
        exact (hi1 q).keep (by rw [up2_o _ _ _ (by omega), qc.1 50 (by omega)]) (fun k a b => by rw [up2_o _ _ _ (by omega)]; exact qc.2.2 k (by omega))
      · have y2 : nKeep s 1 = uK s (k0 s) 1 (i0 s) (sV s) := by (unfold nKeep; rw [if_neg (by omega), if_pos rfl])
        have y1 : aKeep s 1 = k1 s := by (unfold aKeep; rw [if_neg (by omega), if_pos rfl])
        rw [y1, y2]
        have q84 : RP (up2 Mc 59 1 1) 84 (sV s) := RP.keep (M := Mc) (p := 84) hRc (by rw [up2_o _ _ _ (by omega)]) (fun k _ _ => by rw [up2_o _ _ _ (by omega)])
        refine ⟨hk1, mdl_uK hC _ _ _ _ (fun c h1 h2 => by rw [up2_o _ _ _ h2]; exact qc.1 c h1) (fun k hk => by rw [up2_o _ _ _ (by omega)]; exact qc.2.2 k (by omega)) ⟨by rw [up2_k _ _ _ (by omega), h59]; exact hk0, up2_s _ _ _ _, fun q => ?_, fun _ => q84⟩, fun a ha => by rw [up2_o _ _ _ (by omega)]; exact qc.1 a (by omega)⟩
        exact (hi0 q).keep (by rw [up2_o _ _ _ (by omega), qc.1 50 (by omega)]) (fun k a b => by rw [up2_o _ _ _ (by omega)]; exact qc.2.2 k (by omega))
  · refine x_iconst 11 dX7_keep_10 rfl ?_
    refine x_iret dX7_keep_11 rfl ⟨rfl, Nat.le_refl _⟩ (qi_i ?_)
    have y1 : aKeep s k = -1 := by (unfold aKeep; rw [if_neg (by omega), if_neg (by omega)])
    have y2 : nKeep s k = s := by (unfold nKeep; rw [if_neg (by omega), if_neg (by omega)])
    rw [y1, y2]; exact PM.same hC rfl

set_option maxHeartbeats 4000000 in
theorem r_back {g : GG} {M : Mem} {s : ST} (hC : Mdl M s) (hO : SOK s) (k : Int) (hk : -2147483648 ≤ k ∧ k ≤ 2147483647) : CI g tX7_back 1 [rv g 50, iv k] M (PM M (aBack s k) (nBack s k)) := by
  refine Con.of [some (rv g 50), some (iv k)] (by decide +kernel) rfl (Nat.le_of_ble_eq_true rfl) ?_
  obtain ⟨hV, ⟨hk0, hk1, hi0, hi1⟩, ⟨hT1, hT2⟩, ⟨hS1, hS2⟩, hZ, hN, hF, hKs, hMC⟩ := id hC
  obtain ⟨oV, oW, oI0, oI1, oT, oTb, oS, oSb, oZ⟩ := id hO
  have e1 : M 50 1 = vn (sV s) := hV.2.1
  have e40 : M 51 40 = vf (sV s) := hV.F (by omega)
  have e41 : M 51 41 = vw (sV s) := hV.W (by omega)
  have o1 := oV.1
  have o2 := oV.2.1
  have o3 := oV.2.2.1
  have kb0 := oI0.1
  have kb1 := oI1.1
  have kk01 : ∀ k : Int, (k = 0 ∨ k = 1) → M 59 k = 0 ∨ M 59 k = 1 := fun k hk => by
    rcases hk with rfl | rfl
    · omega
    · omega
  refine x_iload_n 1 1 dX7_back_0 rfl rfl (by decide) rfl ?_
  refine x_i2l 2 dX7_back_1 rfl (by omega) ?_
  refine x_lconst 3 dX7_back_2 rfl 0 rfl ?_
  refine x_lconst 4 dX7_back_3 rfl 1 rfl ?_
  refine x_sp 7 [_, _, _] (m_in _ _ _ (by omega) (by omega) (by omega)) mX7_in kX7_53 dX7_back_4 rfl rfl rfl (Nat.le_of_ble_eq_true rfl) (by decide) ?_
  refine x_ifne_b 12 10 dX7_back_7 (by decide) rfl (fun h7 => ?_) (fun h7 => ?_)
  · refine x_aload_n 13 0 dX7_back_12 rfl rfl (by decide) rfl ?_
    refine x_getR 16 24 59 dX7_back_13 rfl fX7_38 rfl rfl rfl ?_
    refine x_iload_n 17 1 dX7_back_16 rfl rfl (by decide) rfl ?_
    refine x_zaload 18 dX7_back_17 rfl rfl (by omega) (fun g17 => ?_)
    have kz := kk01 k (by omega)
    refine x_if_ne 24 21 dX7_back_18 (by decide) rfl (by omega) (fun h18 => ?_) (fun h18 => ?_)
    · refine x_aload_n 25 0 dX7_back_24 rfl rfl (by decide) rfl ?_
      refine x_bipush 27 dX7_back_25 rfl (by decide) ?_
      refine x_iload_n 28 1 dX7_back_27 rfl rfl (by decide) rfl ?_
      refine x_iconst 29 dX7_back_28 rfl ?_
      refine x_iadd 30 dX7_back_29 rfl ?_
      refine x_imul 31 dX7_back_30 rfl ?_
      refine x_iconst 32 dX7_back_31 rfl ?_
      refine x_vv 35 [_, _] (m_copies (42 * (k + 1)) 0 (by omega) (by omega) (by omega)) mX7_copies kX7_195 dX7_back_32 rfl rfl ⟨by decide, rfl⟩ rfl rfl (Nat.le_of_ble_eq_true rfl) (by decide) (fun Mc qc => ?_)
      refine x_aload_n 36 0 dX7_back_35 rfl rfl (by decide) rfl ?_
      refine x_getR 39 0 51 dX7_back_36 rfl fX7_7 rfl rfl rfl ?_
      refine x_bipush 41 dX7_back_39 rfl (by decide) ?_
      refine x_iaload 42 dX7_back_41 rfl rfl (by omega) (fun g41 => ?_)
      refine x_iret dX7_back_42 rfl ⟨rfl, Nat.le_refl _⟩ (qi_i ?_)
      rcases (show k = 0 ∨ k = 1 by omega) with rfl | rfl
      · have y1 : aBack s 0 = vw (i0 s) := by (unfold aBack; rw [if_pos rfl, if_pos (by omega)])
        have y2 : nBack s 0 = uV s (i0 s) := by (unfold nBack; rw [if_pos rfl, if_pos (by omega)])
        have hRb : RP Mc 0 (i0 s) := RP.copy (f := 42) (hi0 (by omega)) qc
        rw [y1, y2]; exact PM.lg hC (hRb.W (by omega)) hRb qc.fp
      · have y1 : aBack s 1 = vw (i1 s) := by (unfold aBack; rw [if_neg (by omega), if_pos rfl, if_pos (by omega)])
        have y2 : nBack s 1 = uV s (i1 s) := by (unfold nBack; rw [if_neg (by omega), if_pos rfl, if_pos (by omega)])
        have hRb : RP Mc 0 (i1 s) := RP.copy (f := 84) (hi1 (by omega)) qc
        rw [y1, y2]; exact PM.lg hC (hRb.W (by omega)) hRb qc.fp
    · refine x_bipush 23 dX7_back_21 rfl (by decide) ?_
      refine x_iret dX7_back_23 rfl ⟨rfl, Nat.le_refl _⟩ (qi_i ?_)
      rcases (show k = 0 ∨ k = 1 by omega) with rfl | rfl
      · have y1 : aBack s 0 = -2 := by (unfold aBack; rw [if_pos rfl, if_neg (by omega)])
        have y2 : nBack s 0 = s := by (unfold nBack; rw [if_pos rfl, if_neg (by omega)])
        rw [y1, y2]; exact PM.same hC rfl
      · have y1 : aBack s 1 = -2 := by (unfold aBack; rw [if_neg (by omega), if_pos rfl, if_neg (by omega)])
        have y2 : nBack s 1 = s := by (unfold nBack; rw [if_neg (by omega), if_pos rfl, if_neg (by omega)])
        rw [y1, y2]; exact PM.same hC rfl
  · refine x_iconst 11 dX7_back_10 rfl ?_
    refine x_iret dX7_back_11 rfl ⟨rfl, Nat.le_refl _⟩ (qi_i ?_)
    have y1 : aBack s k = -1 := by (unfold aBack; rw [if_neg (by omega), if_neg (by omega)])
    have y2 : nBack s k = s := by (unfold nBack; rw [if_neg (by omega), if_neg (by omega)])
    rw [y1, y2]; exact PM.same hC rfl

set_option maxHeartbeats 4000000 in
theorem r_sheet {g : GG} {M : Mem} {s : ST} (hC : Mdl M s) (hO : SOK s) (k l n : Int) (hk : -2147483648 ≤ k ∧ k ≤ 2147483647) (hl : -2147483648 ≤ l ∧ l ≤ 2147483647) (hn : -2147483648 ≤ n ∧ n ≤ 2147483647) : CI g tX7_sheet 1 [rv g 50, iv k, iv l, iv n] M (PM M (aSheet s k l n) (nSheet s k l n)) := by
  refine Con.of [some (rv g 50), some (iv k), some (iv l), some (iv n), none] (by decide +kernel) rfl (Nat.le_of_ble_eq_true rfl) ?_
  obtain ⟨hV, ⟨hk0, hk1, hi0, hi1⟩, ⟨hT1, hT2⟩, ⟨hS1, hS2⟩, hZ, hN, hF, hKs, hMC⟩ := id hC
  obtain ⟨oV, oW, oI0, oI1, oT, oTb, oS, oSb, oZ⟩ := id hO
  have e1 : M 50 1 = vn (sV s) := hV.2.1
  have e40 : M 51 40 = vf (sV s) := hV.F (by omega)
  have e41 : M 51 41 = vw (sV s) := hV.W (by omega)
  have o1 := oV.1
  have o2 := oV.2.1
  have o3 := oV.2.2.1
  refine x_iload_n 1 1 dX7_sheet_0 rfl rfl (by decide) rfl ?_
  refine x_i2l 2 dX7_sheet_1 rfl (by omega) ?_
  refine x_lconst 3 dX7_sheet_2 rfl 0 rfl ?_
  refine x_ldc2 6 3 qX7_174 dX7_sheet_3 rfl ?_
  refine x_sp 9 [_, _, _] (m_in _ _ _ (by omega) (by omega) (by omega)) mX7_in kX7_53 dX7_sheet_6 rfl rfl rfl (Nat.le_of_ble_eq_true rfl) (by decide) ?_
  refine x_ifeq_b 30 12 dX7_sheet_9 (by decide) rfl (fun h9 => ?_) (fun h9 => ?_)
  · refine x_iconst 31 dX7_sheet_30 rfl ?_
    refine x_iret dX7_sheet_31 rfl ⟨rfl, Nat.le_refl _⟩ (qi_i ?_)
    have y1 : aSheet s k l n = -1 := by (unfold aSheet; rw [if_neg (by omega)])
    have y2 : nSheet s k l n = s := by (unfold nSheet; rw [if_neg (by omega)])
    rw [y1, y2]
    exact PM.same hC rfl
  · refine x_iload_n 13 2 dX7_sheet_12 rfl rfl (by decide) rfl ?_
    refine x_i2l 14 dX7_sheet_13 rfl (by omega) ?_
    refine x_lconst 15 dX7_sheet_14 rfl 0 rfl ?_
    refine x_ldc2 18 2 qX7_204 dX7_sheet_15 rfl ?_
    refine x_sp 21 [_, _, _] (m_in _ _ _ (by omega) (by omega) (by omega)) mX7_in kX7_53 dX7_sheet_18 rfl rfl rfl (Nat.le_of_ble_eq_true rfl) (by decide) ?_
    refine x_ifeq_b 30 24 dX7_sheet_21 (by decide) rfl (fun h21 => ?_) (fun h21 => ?_)
    · refine x_iconst 31 dX7_sheet_30 rfl ?_
      refine x_iret dX7_sheet_31 rfl ⟨rfl, Nat.le_refl _⟩ (qi_i ?_)
      have y1 : aSheet s k l n = -1 := by (unfold aSheet; rw [if_neg (by omega)])
      have y2 : nSheet s k l n = s := by (unfold nSheet; rw [if_neg (by omega)])
      rw [y1, y2]
      exact PM.same hC rfl
    · refine x_iload_n 25 3 dX7_sheet_24 rfl rfl (by decide) rfl ?_
      refine x_bipush 27 dX7_sheet_25 rfl (by decide) ?_
      refine x_icmp_le 32 30 dX7_sheet_27 (by decide) rfl (by omega) (fun h27 => ?_) (fun h27 => ?_)
      · refine x_iload_n 33 3 dX7_sheet_32 rfl rfl (by decide) rfl ?_
        refine x_if_ge 39 36 dX7_sheet_33 (by decide) rfl (by omega) (fun h33 => ?_) (fun h33 => ?_)
        · obtain ⟨K, rfl⟩ := Int.eq_ofNat_of_zero_le (show 0 ≤ k by omega)
          obtain ⟨N, rfl⟩ := Int.eq_ofNat_of_zero_le (show 0 ≤ n by omega)
          have y1 : aSheet s K l N = 1 := by (unfold aSheet; rw [if_pos (by omega), if_neg (by omega)])
          have y2 : nSheet s K l N = uZ s (up1 (zz s) K N) (up1 (zl s) K l) (up1 (zc s) K (fun _ => 0)) := by (unfold nSheet; rw [if_pos (by omega), if_neg (by omega), Int.toNat_natCast])
          rw [y1, y2]
          have loop : ∀ (m i : Nat) (M2 : Mem), 40 - i < m → i ≤ 40 → (∀ a, a ≠ 62 → M2 a = up2 (up2 M 60 K l) 61 K N a) → (∀ z, (z < 40 * (K : Int) ∨ 40 * (K : Int) + i ≤ z) → M2 62 z = M 62 z) → (∀ z, 40 * (K : Int) ≤ z → z < 40 * (K : Int) + i → M2 62 z = 0) → X g tX7_sheet (kk0 1) 56 [some (rv g 50), some (iv K), some (iv l), some (iv N), some (iv i)] [] (S0, R0, M2) (QI (PM M 1 (uZ s (up1 (zz s) K N) (up1 (zl s) K l) (up1 (zc s) K (fun _ => 0))))) := by
            intro m
            induction m with
            | zero => intro i M2 k1 k2; omega
            | succ m ih =>
              intro i M2 k1 k2 c1 c2 c3
              refine x_iload 58 4 dX7_sheet_56 rfl (by decide) rfl ?_
              refine x_bipush 60 dX7_sheet_58 rfl (by decide) ?_
              refine x_icmp_ge 82 63 dX7_sheet_60 (by decide) rfl (by omega) (fun h60 => ?_) (fun h60 => ?_)
              · refine x_iconst 83 dX7_sheet_82 rfl ?_
                refine x_iret dX7_sheet_83 rfl ⟨rfl, Nat.le_refl _⟩ (qi_i ?_)
                refine ⟨rfl, mdl_uZ hC _ _ _ (fun a h0 h1 h2 h3 => ?_) (fun k => ?_) (fun j hj => ?_), fun a ha => ?_⟩
                · rw [c1 a h3, up2_o _ _ _ h2, up2_o _ _ _ h1]
                · rw [c1 50 (by omega), up2_o _ _ _ (by omega), up2_o _ _ _ (by omega)]
                · have f60 : M2 60 j = if (j : Int) = K then l else M 60 j := by (rw [c1 60 (by omega), up2_o _ _ _ (by omega), up2_i])
                  have f61 : M2 61 j = if (j : Int) = K then (N : Int) else M 61 j := by (rw [c1 61 (by omega), up2_i, up2_o _ _ _ (by omega)])
                  unfold up1
                  by_cases e : j = K
                  · subst e
                    rw [if_pos rfl, if_pos rfl, if_pos rfl, f60, f61, if_pos rfl, if_pos rfl]
                    exact ⟨fun q => by omega, fun _ => ⟨rfl, rfl⟩, fun z a b => c3 _ (by omega) (by omega)⟩
                  · rw [if_neg e, if_neg e, if_neg e, f60, f61, if_neg (by omega), if_neg (by omega)]
                    obtain ⟨z1, z2, z3⟩ := hZ j hj
                    have zb := (oZ j hj).1
                    refine ⟨z1, z2, fun z a b => ?_⟩
                    rw [c2 _ (by omega)]; exact z3 z a b
                · rw [c1 a (by omega), up2_o _ _ _ (by omega), up2_o _ _ _ (by omega)]
              · refine x_aload_n 64 0 dX7_sheet_63 rfl rfl (by decide) rfl ?_
                refine x_getR 67 27 62 dX7_sheet_64 rfl fX7_48 rfl rfl rfl ?_
                refine x_bipush 69 dX7_sheet_67 rfl (by decide) ?_
                refine x_iload_n 70 1 dX7_sheet_69 rfl rfl (by decide) rfl ?_
                refine x_imul 71 dX7_sheet_70 rfl ?_
                refine x_iload 73 4 dX7_sheet_71 rfl (by decide) rfl ?_
                refine x_iadd 74 dX7_sheet_73 rfl ?_
                refine x_iconst 75 dX7_sheet_74 rfl ?_
                refine x_iastore 76 dX7_sheet_75 rfl rfl (by omega) (by omega) ?_
                refine x_iinc 79 _ dX7_sheet_76 rfl (by decide) rfl rfl rfl ?_
                refine x_goto 56 dX7_sheet_79 (by decide) ?_
                refine ih (i + 1) _ (by omega) (by omega) (fun a ha => ?_) (fun z hz => ?_) (fun z h1 h2 => ?_)
                · rw [up2_o _ _ _ ha]; exact c1 a ha
                · rw [up2_k _ _ _ (by omega)]; exact c2 z (by omega)
                · rw [up2_i]
                  by_cases e : z = 40 * (K : Int) + i
                  · rw [if_pos e]
                  · rw [if_neg e]; exact c3 z h1 (by omega)
          refine x_aload_n 40 0 dX7_sheet_39 rfl rfl (by decide) rfl ?_
          refine x_getR 43 25 60 dX7_sheet_40 rfl fX7_42 rfl rfl rfl ?_
          refine x_iload_n 44 1 dX7_sheet_43 rfl rfl (by decide) rfl ?_
          refine x_iload_n 45 2 dX7_sheet_44 rfl rfl (by decide) rfl ?_
          refine x_iastore 46 dX7_sheet_45 rfl rfl (by omega) (by omega) ?_
          refine x_aload_n 47 0 dX7_sheet_46 rfl rfl (by decide) rfl ?_
          refine x_getR 50 26 61 dX7_sheet_47 rfl fX7_45 rfl rfl rfl ?_
          refine x_iload_n 51 1 dX7_sheet_50 rfl rfl (by decide) rfl ?_
          refine x_iload_n 52 3 dX7_sheet_51 rfl rfl (by decide) rfl ?_
          refine x_iastore 53 dX7_sheet_52 rfl rfl (by omega) (by omega) ?_
          refine x_iconst 54 dX7_sheet_53 rfl ?_
          refine x_istore 56 4 _ dX7_sheet_54 rfl (by decide) rfl rfl ?_
          exact loop 41 0 _ (by omega) (by omega) (fun _ _ => rfl) (fun z _ => by rw [up2_o _ _ _ (by omega), up2_o _ _ _ (by omega)]) (fun z h1 h2 => by omega)
        · refine x_bipush 38 dX7_sheet_36 rfl (by decide) ?_
          refine x_iret dX7_sheet_38 rfl ⟨rfl, Nat.le_refl _⟩ (qi_i ?_)
          have y1 : aSheet s k l n = -14 := by (unfold aSheet; rw [if_pos (by omega), if_pos (by omega)])
          have y2 : nSheet s k l n = s := by (unfold nSheet; rw [if_pos (by omega), if_pos (by omega)])
          rw [y1, y2]
          exact PM.same hC rfl
      · refine x_iconst 31 dX7_sheet_30 rfl ?_
        refine x_iret dX7_sheet_31 rfl ⟨rfl, Nat.le_refl _⟩ (qi_i ?_)
        have y1 : aSheet s k l n = -1 := by (unfold aSheet; rw [if_neg (by omega)])
        have y2 : nSheet s k l n = s := by (unfold nSheet; rw [if_neg (by omega)])
        rw [y1, y2]
        exact PM.same hC rfl

set_option maxHeartbeats 4000000 in
theorem r_lay {g : GG} {M : Mem} {s : ST} (hC : Mdl M s) (hO : SOK s) (k i v : Int) (hk : -2147483648 ≤ k ∧ k ≤ 2147483647) (hi : -2147483648 ≤ i ∧ i ≤ 2147483647) (hv : -2147483648 ≤ v ∧ v ≤ 2147483647) : CI g tX7_lay 1 [rv g 50, iv k, iv i, iv v] M (PM M (aLay s k i v) (nLay s k i v)) := by
  refine Con.of [some (rv g 50), some (iv k), some (iv i), some (iv v)] (by decide +kernel) rfl (Nat.le_of_ble_eq_true rfl) ?_
  obtain ⟨hV, ⟨hk0, hk1, hi0, hi1⟩, ⟨hT1, hT2⟩, ⟨hS1, hS2⟩, hZ, hN, hF, hKs, hMC⟩ := id hC
  obtain ⟨oV, oW, oI0, oI1, oT, oTb, oS, oSb, oZ⟩ := id hO
  have e1 : M 50 1 = vn (sV s) := hV.2.1
  have e40 : M 51 40 = vf (sV s) := hV.F (by omega)
  have e41 : M 51 41 = vw (sV s) := hV.W (by omega)
  have o1 := oV.1
  have o2 := oV.2.1
  have o3 := oV.2.2.1
  refine x_iload_n 1 1 dX7_lay_0 rfl rfl (by decide) rfl ?_
  refine x_i2l 2 dX7_lay_1 rfl (by omega) ?_
  refine x_lconst 3 dX7_lay_2 rfl 0 rfl ?_
  refine x_ldc2 6 3 qX7_174 dX7_lay_3 rfl ?_
  refine x_sp 9 [_, _, _] (m_in _ _ _ (by omega) (by omega) (by omega)) mX7_in kX7_53 dX7_lay_6 rfl rfl rfl (Nat.le_of_ble_eq_true rfl) (by decide) ?_
  refine x_ifne_b 14 12 dX7_lay_9 (by decide) rfl (fun h9 => ?_) (fun h9 => ?_)
  · obtain ⟨K, rfl⟩ := Int.eq_ofNat_of_zero_le (show 0 ≤ k by omega)
    obtain ⟨z1, z2, z3⟩ := hZ K (by omega)
    obtain ⟨zb, zlb, zcb⟩ := oZ K (by omega)
    refine x_aload_n 15 0 dX7_lay_14 rfl rfl (by decide) rfl ?_
    refine x_getR 18 25 60 dX7_lay_15 rfl fX7_42 rfl rfl rfl ?_
    refine x_iload_n 19 1 dX7_lay_18 rfl rfl (by decide) rfl ?_
    refine x_iaload 20 dX7_lay_19 rfl rfl (by omega) (fun g19 => ?_)
    refine x_bipush 22 dX7_lay_20 rfl (by decide) ?_
    refine x_icmp_ne 28 25 dX7_lay_22 (by decide) rfl (by omega) (fun h22 => ?_) (fun h22 => ?_)
    · have hnz : zz s K ≠ -1 := fun q => by have := z1 q; omega
      have hz2 := z2 hnz
      have hl := zlb hnz
      have nv : -2147483648 ≤ nrw (zl s K) v ∧ nrw (zl s K) v ≤ 2147483647 := by (unfold nrw; (repeat' split) <;> first | exact i32_rng _ | exact hv)
      refine x_iload_n 29 2 dX7_lay_28 rfl rfl (by decide) rfl ?_
      refine x_i2l 30 dX7_lay_29 rfl (by omega) ?_
      refine x_lconst 31 dX7_lay_30 rfl 0 rfl ?_
      refine x_aload_n 32 0 dX7_lay_31 rfl rfl (by decide) rfl ?_
      refine x_getR 35 26 61 dX7_lay_32 rfl fX7_45 rfl rfl rfl ?_
      refine x_iload_n 36 1 dX7_lay_35 rfl rfl (by decide) rfl ?_
      refine x_iaload 37 dX7_lay_36 rfl rfl (by omega) (fun g36 => ?_)
      rw [hz2.2]
      refine x_iconst 38 dX7_lay_37 rfl ?_
      refine x_isub 39 dX7_lay_38 rfl ?_
      refine x_i2l 40 dX7_lay_39 rfl (by omega) ?_
      refine x_sp 43 [_, _, _] (m_in _ _ _ (by omega) (by omega) (by omega)) mX7_in kX7_53 dX7_lay_40 rfl rfl rfl (Nat.le_of_ble_eq_true rfl) (by decide) ?_
      refine x_ifne_b 49 46 dX7_lay_43 (by decide) rfl (fun h43 => ?_) (fun h43 => ?_)
      · refine x_aload_n 50 0 dX7_lay_49 rfl rfl (by decide) rfl ?_
        refine x_getR 53 27 62 dX7_lay_50 rfl fX7_48 rfl rfl rfl ?_
        refine x_bipush 55 dX7_lay_53 rfl (by decide) ?_
        refine x_iload_n 56 1 dX7_lay_55 rfl rfl (by decide) rfl ?_
        refine x_imul 57 dX7_lay_56 rfl ?_
        refine x_iload_n 58 2 dX7_lay_57 rfl rfl (by decide) rfl ?_
        refine x_iadd 59 dX7_lay_58 rfl ?_
        refine x_cut 99 (fun z => z = nrw (zl s K) v) (fun tail59 => ?_) (fun z59 hz59 => ?_)
        · refine x_aload_n 60 0 dX7_lay_59 rfl rfl (by decide) rfl ?_
          refine x_getR 63 25 60 dX7_lay_60 rfl fX7_42 rfl rfl rfl ?_
          refine x_iload_n 64 1 dX7_lay_63 rfl rfl (by decide) rfl ?_
          refine x_iaload 65 dX7_lay_64 rfl rfl (by omega) (fun g64 => ?_)
          rw [hz2.1]
          refine x_if_ne 78 68 dX7_lay_65 (by decide) rfl (by omega) (fun h65 => ?_) (fun h65 => ?_)
          · refine x_aload_n 79 0 dX7_lay_78 rfl rfl (by decide) rfl ?_
            refine x_getR 82 25 60 dX7_lay_79 rfl fX7_42 rfl rfl rfl ?_
            refine x_iload_n 83 1 dX7_lay_82 rfl rfl (by decide) rfl ?_
            refine x_iaload 84 dX7_lay_83 rfl rfl (by omega) (fun g83 => ?_)
            rw [hz2.1]
            refine x_iconst 85 dX7_lay_84 rfl ?_
            refine x_icmp_ne 98 88 dX7_lay_85 (by decide) rfl (by omega) (fun h85 => ?_) (fun h85 => ?_)
            · refine x_iload_n 99 3 dX7_lay_98 rfl rfl (by decide) rfl ?_
              exact tail59 _ (by unfold nrw; first | rw [if_pos (by omega)] | rw [if_neg (by omega), if_pos (by omega)] | rw [if_neg (by omega), if_neg (by omega)])
            · refine x_iload_n 89 3 dX7_lay_88 rfl rfl (by decide) rfl ?_
              refine x_bipush 91 dX7_lay_89 rfl (by decide) ?_
              refine x_ishl 92 (Int32.ofInt v <<< (Int32.ofInt 16 &&& 31)).toInt dX7_lay_91 rfl (Int32.ofInt_toInt _).symm ?_
              refine x_bipush 94 dX7_lay_92 rfl (by decide) ?_
              refine x_ishr 95 (Int32.ofInt v).toInt16.toInt32.toInt dX7_lay_94 rfl (by rw [Int32.ofInt_toInt, Int32.ofInt_toInt]; exact sls16 _) ?_
              refine x_goto 99 dX7_lay_95 (by decide) ?_
              exact tail59 _ (by unfold nrw; first | rw [if_pos (by omega)] | rw [if_neg (by omega), if_pos (by omega)] | rw [if_neg (by omega), if_neg (by omega)])
          · refine x_iload_n 69 3 dX7_lay_68 rfl rfl (by decide) rfl ?_
            refine x_bipush 71 dX7_lay_69 rfl (by decide) ?_
            refine x_ishl 72 (Int32.ofInt v <<< (Int32.ofInt 24 &&& 31)).toInt dX7_lay_71 rfl (Int32.ofInt_toInt _).symm ?_
            refine x_bipush 74 dX7_lay_72 rfl (by decide) ?_
            refine x_ishr 75 (Int32.ofInt v).toInt8.toInt32.toInt dX7_lay_74 rfl (by rw [Int32.ofInt_toInt, Int32.ofInt_toInt]; exact sls24 _) ?_
            refine x_goto 99 dX7_lay_75 (by decide) ?_
            exact tail59 _ (by unfold nrw; first | rw [if_pos (by omega)] | rw [if_neg (by omega), if_pos (by omega)] | rw [if_neg (by omega), if_neg (by omega)])
        · subst z59
          refine x_iastore 100 dX7_lay_99 rfl rfl (by omega) (by omega) ?_
          refine x_iconst 101 dX7_lay_100 rfl ?_
          refine x_iret dX7_lay_101 rfl ⟨rfl, Nat.le_refl _⟩ (qi_i ?_)
          have y1 : aLay s K i v = 1 := by (unfold aLay; rw [if_pos (by omega), Int.toNat_natCast, if_neg hnz, if_pos (by omega)])
          have y2 : nLay s K i v = uZ s (zz s) (zl s) (up1 (zc s) K (fu (zc s K) i (nrw (zl s K) v))) := by (unfold nLay; rw [Int.toNat_natCast, if_pos ⟨by omega, hnz, by omega⟩])
          rw [y1, y2]
          refine ⟨rfl, mdl_uZ hC _ _ _ (fun a h0 h1 h2 h3 => up2_o _ _ _ h3) (fun k => by rw [up2_o _ _ _ (by omega)]) (fun j hj => ?_), fun a ha => up2_o _ _ _ (by omega)⟩
          rw [up2_o _ _ _ (by omega), up2_o _ _ _ (by omega)]
          obtain ⟨a1, a2, a3⟩ := hZ j hj
          have ab := (oZ j hj).1
          refine ⟨a1, a2, fun q c d => ?_⟩
          rw [up2_i]
          unfold up1
          by_cases e : j = K
          · subst e
            rw [if_pos rfl]
            unfold fu
            by_cases e2 : q = i
            · rw [if_pos (by omega), if_pos e2]
            · rw [if_neg (by omega), if_neg e2]; exact a3 q c d
          · rw [if_neg e, if_neg (by omega)]; exact a3 q c d
      · refine x_bipush 48 dX7_lay_46 rfl (by decide) ?_
        refine x_iret dX7_lay_48 rfl ⟨rfl, Nat.le_refl _⟩ (qi_i ?_)
        have y1 : aLay s K i v = -12 := by (unfold aLay; rw [if_pos (by omega), Int.toNat_natCast, if_neg hnz, if_neg (by omega)])
        have y2 : nLay s K i v = s := by (unfold nLay; rw [Int.toNat_natCast, if_neg (by omega)])
        rw [y1, y2]; exact PM.same hC rfl
    · refine x_bipush 27 dX7_lay_25 rfl (by decide) ?_
      refine x_iret dX7_lay_27 rfl ⟨rfl, Nat.le_refl _⟩ (qi_i ?_)
      have hnz : zz s K = -1 := by
        by_cases q : zz s K = -1
        · exact q
        · have := (z2 q).1
          have := zlb q
          omega
      have y1 : aLay s K i v = -11 := by (unfold aLay; rw [if_pos (by omega), Int.toNat_natCast, if_pos hnz])
      have y2 : nLay s K i v = s := by (unfold nLay; rw [Int.toNat_natCast, if_neg (by omega)])
      rw [y1, y2]; exact PM.same hC rfl
  · refine x_iconst 13 dX7_lay_12 rfl ?_
    refine x_iret dX7_lay_13 rfl ⟨rfl, Nat.le_refl _⟩ (qi_i ?_)
    have y1 : aLay s k i v = -1 := by (unfold aLay; rw [if_neg (by omega)])
    have y2 : nLay s k i v = s := by (unfold nLay; rw [if_neg (by omega)])
    rw [y1, y2]
    exact PM.same hC rfl

set_option maxHeartbeats 4000000 in
theorem r_torn {g : GG} {M : Mem} {s : ST} (hC : Mdl M s) (hO : SOK s) : CI g tX7_torn 0 [rv g 50] M (PM M (tn s) s) := by
  refine Con.of [some (rv g 50)] (by decide +kernel) rfl (Nat.le_of_ble_eq_true rfl) ?_
  obtain ⟨hV, ⟨hk0, hk1, hi0, hi1⟩, ⟨hT1, hT2⟩, ⟨hS1, hS2⟩, hZ, hN, hF, hKs, hMC⟩ := id hC
  obtain ⟨oV, oW, oI0, oI1, oT, oTb, oS, oSb, oZ⟩ := id hO
  have e1 : M 50 1 = vn (sV s) := hV.2.1
  have e40 : M 51 40 = vf (sV s) := hV.F (by omega)
  have e41 : M 51 41 = vw (sV s) := hV.W (by omega)
  have o1 := oV.1
  have o2 := oV.2.1
  have o3 := oV.2.2.1
  refine x_aload_n 1 0 dX7_torn_0 rfl rfl (by decide) rfl ?_
  refine x_getI 4 28 28 rfl dX7_torn_1 rfl fX7_236 rfl rfl (fun g1 => ?_)
  refine x_iret dX7_torn_4 rfl ⟨rfl, Nat.le_refl _⟩ (qi_i ?_)
  exact PM.same hC hN

set_option maxHeartbeats 4000000 in
theorem r_count {g : GG} {M : Mem} {s : ST} (hC : Mdl M s) (hO : SOK s) (w : Int) (hw : -2147483648 ≤ w ∧ w ≤ 2147483647) : CI g tX7_count 0 [rv g 50, iv w] M (PM M (aCount s w) s) := by
  refine Con.of [some (rv g 50), some (iv w), none, none, none] (by decide +kernel) rfl (Nat.le_of_ble_eq_true rfl) ?_
  obtain ⟨hV, ⟨hk0, hk1, hi0, hi1⟩, ⟨hT1, hT2⟩, ⟨hS1, hS2⟩, hZ, hN, hF, hKs, hMC⟩ := id hC
  obtain ⟨oV, oW, oI0, oI1, oT, oTb, oS, oSb, oZ⟩ := id hO
  have e1 : M 50 1 = vn (sV s) := hV.2.1
  have e40 : M 51 40 = vf (sV s) := hV.F (by omega)
  have e41 : M 51 41 = vw (sV s) := hV.W (by omega)
  have o1 := oV.1
  have o2 := oV.2.1
  have o3 := oV.2.2.1
  have kb0 := oI0.1
  have kb1 := oI1.1
  obtain ⟨za, zb, zc_⟩ := hZ 0 (by omega)
  obtain ⟨ya, yb, yc⟩ := oZ 0 (by omega)
  have za : zz s 0 = -1 → M 60 0 = -4 := za
  have zb : zz s 0 ≠ -1 → M 60 0 = zl s 0 ∧ M 61 0 = zz s 0 := zb
  have loop : ∀ (m i : Nat), (vn (sV s)).toNat - i < m → i ≤ (vn (sV s)).toNat → X g tX7_count (kk0 0) 7 [some (rv g 50), some (iv w), some (iv (sumN (vS (sV s)) i)), some (iv (sumN (vL (sV s)) i)), some (iv i)] [] (S0, R0, M) (QI (PM M (aCount s w) s)) := by
    intro m
    induction m with
    | zero => intro i kk1 kk2; omega
    | succ m ih =>
      intro i kk1 kk2
      refine x_iload 9 4 dX7_count_7 rfl (by decide) rfl ?_
      refine x_aload_n 10 0 dX7_count_9 rfl rfl (by decide) rfl ?_
      refine x_getI 13 1 1 rfl dX7_count_10 rfl fX7_125 rfl rfl (fun g10 => ?_)
      rw [e1]
      refine x_icmp_ge 47 16 dX7_count_13 (by decide) rfl (by omega) (fun h13 => ?_) (fun h13 => ?_)
      · refine x_iload_n 48 1 dX7_count_47 rfl rfl (by decide) rfl ?_
        refine x_tsw 155 dX7_count_48 (by decide) (by omega) (fun h48 => ?_) (fun c48 hl48 hh48 hx48 => ?_)
        · refine x_iconst 156 dX7_count_155 rfl ?_
          refine x_iret dX7_count_156 rfl ⟨rfl, Nat.le_refl _⟩ (qi_i ?_)
          refine PM.same hC ?_
          unfold aCount
          first
            | (rw [if_neg (by omega), if_neg (by omega), if_neg (by omega), if_neg (by omega), if_neg (by omega), if_neg (by omega)]; done)
            | (subst hx48; first | exact hS1 | exact hT1 | (show _ = sumN (vS (sV s)) (vn (sV s)).toNat; rw [show i = (vn (sV s)).toNat by omega]) | (show _ = sumN (vL (sV s)) (vn (sV s)).toNat; rw [show i = (vn (sV s)).toNat by omega]))
        · rcases (show c48 = 0 ∨ c48 = 1 ∨ c48 = 2 ∨ c48 = 3 ∨ c48 = 4 ∨ c48 = 5 by omega) with rfl | rfl | rfl | rfl | rfl | rfl
          · refine ⟨40, 88, rfl, by decide, ?_⟩
            refine x_aload_n 89 0 dX7_count_88 rfl rfl (by decide) rfl ?_
            refine x_getI 92 22 22 rfl dX7_count_89 rfl fX7_128 rfl rfl (fun g89 => ?_)
            refine x_iret dX7_count_92 rfl ⟨rfl, Nat.le_refl _⟩ (qi_i ?_)
            refine PM.same hC ?_
            unfold aCount
            first
              | (rw [if_neg (by omega), if_neg (by omega), if_neg (by omega), if_neg (by omega), if_neg (by omega), if_neg (by omega)]; done)
              | (subst hx48; first | exact hS1 | exact hT1 | (show _ = sumN (vS (sV s)) (vn (sV s)).toNat; rw [show i = (vn (sV s)).toNat by omega]) | (show _ = sumN (vL (sV s)) (vn (sV s)).toNat; rw [show i = (vn (sV s)).toNat by omega]))
          · refine ⟨45, 93, rfl, by decide, ?_⟩
            refine x_cut 107 (fun z => z = M 59 0) (fun tail93 => ?_) (fun z93 hz93 => ?_)
            · refine x_aload_n 94 0 dX7_count_93 rfl rfl (by decide) rfl ?_
              refine x_getR 97 24 59 dX7_count_94 rfl fX7_38 rfl rfl rfl ?_
              refine x_iconst 98 dX7_count_97 rfl ?_
              refine x_zaload 99 dX7_count_98 rfl rfl (by omega) (fun g98 => ?_)
              refine x_if_eq 106 102 dX7_count_99 (by decide) rfl (by omega) (fun h99 => ?_) (fun h99 => ?_)
              · refine x_iconst 107 dX7_count_106 rfl ?_
                exact tail93 _ (by omega)
              · refine x_iconst 103 dX7_count_102 rfl ?_
                refine x_goto 107 dX7_count_103 (by decide) ?_
                exact tail93 _ (by omega)
            · subst z93
              refine x_cut 121 (fun z => z = M 59 1) (fun tail107 => ?_) (fun z107 hz107 => ?_)
              · refine x_aload_n 108 0 dX7_count_107 rfl rfl (by decide) rfl ?_
                refine x_getR 111 24 59 dX7_count_108 rfl fX7_38 rfl rfl rfl ?_
                refine x_iconst 112 dX7_count_111 rfl ?_
                refine x_zaload 113 dX7_count_112 rfl rfl (by omega) (fun g112 => ?_)
                refine x_if_eq 120 116 dX7_count_113 (by decide) rfl (by omega) (fun h113 => ?_) (fun h113 => ?_)
                · refine x_iconst 121 dX7_count_120 rfl ?_
                  exact tail107 _ (by omega)
                · refine x_iconst 117 dX7_count_116 rfl ?_
                  refine x_goto 121 dX7_count_117 (by decide) ?_
                  exact tail107 _ (by omega)
              · subst z107
                refine x_iadd 122 dX7_count_121 rfl ?_
                refine x_iret dX7_count_122 rfl ⟨rfl, Nat.le_refl _⟩ (qi_i ?_)
                refine PM.same hC ?_
                subst hx48
                show _ = k0 s + k1 s
                omega
          · refine ⟨75, 123, rfl, by decide, ?_⟩
            refine x_aload_n 124 0 dX7_count_123 rfl rfl (by decide) rfl ?_
            refine x_getI 127 6 6 rfl dX7_count_124 rfl fX7_57 rfl rfl (fun g124 => ?_)
            refine x_iret dX7_count_127 rfl ⟨rfl, Nat.le_refl _⟩ (qi_i ?_)
            refine PM.same hC ?_
            unfold aCount
            first
              | (rw [if_neg (by omega), if_neg (by omega), if_neg (by omega), if_neg (by omega), if_neg (by omega), if_neg (by omega)]; done)
              | (subst hx48; first | exact hS1 | exact hT1 | (show _ = sumN (vS (sV s)) (vn (sV s)).toNat; rw [show i = (vn (sV s)).toNat by omega]) | (show _ = sumN (vL (sV s)) (vn (sV s)).toNat; rw [show i = (vn (sV s)).toNat by omega]))
          · refine ⟨80, 128, rfl, by decide, ?_⟩
            refine x_aload_n 129 0 dX7_count_128 rfl rfl (by decide) rfl ?_
            refine x_getR 132 25 60 dX7_count_129 rfl fX7_42 rfl rfl rfl ?_
            refine x_iconst 133 dX7_count_132 rfl ?_
            refine x_iaload 134 dX7_count_133 rfl rfl (by omega) (fun g133 => ?_)
            refine x_bipush 136 dX7_count_134 rfl (by decide) ?_
            refine x_icmp_ne 144 139 dX7_count_136 (by decide) rfl (by omega) (fun h136 => ?_) (fun h136 => ?_)
            · refine x_aload_n 145 0 dX7_count_144 rfl rfl (by decide) rfl ?_
              refine x_getR 148 26 61 dX7_count_145 rfl fX7_45 rfl rfl rfl ?_
              refine x_iconst 149 dX7_count_148 rfl ?_
              refine x_iaload 150 dX7_count_149 rfl rfl (by omega) (fun g149 => ?_)
              refine x_iret dX7_count_150 rfl ⟨rfl, Nat.le_refl _⟩ (qi_i ?_)
              refine PM.same hC ?_
              subst hx48
              show _ = if zz s 0 = -1 then -4 else zz s 0
              by_cases q : zz s 0 = -1
              · have := za q
                rw [if_pos q]; first | done | omega
              · have h2 := zb q
                have h3 := yb q
                rw [if_neg q]; omega
            · refine x_bipush 141 dX7_count_139 rfl (by decide) ?_
              refine x_goto 150 dX7_count_141 (by decide) ?_
              refine x_iret dX7_count_150 rfl ⟨rfl, Nat.le_refl _⟩ (qi_i ?_)
              refine PM.same hC ?_
              subst hx48
              show _ = if zz s 0 = -1 then -4 else zz s 0
              by_cases q : zz s 0 = -1
              · have := za q
                rw [if_pos q]; first | done | omega
              · have h2 := zb q
                have h3 := yb q
                rw [if_neg q]; omega
          · refine ⟨103, 151, rfl, by decide, ?_⟩
            refine x_iload_n 152 2 dX7_count_151 rfl rfl (by decide) rfl ?_
            refine x_iret dX7_count_152 rfl ⟨rfl, Nat.le_refl _⟩ (qi_i ?_)
            refine PM.same hC ?_
            unfold aCount
            first
              | (rw [if_neg (by omega), if_neg (by omega), if_neg (by omega), if_neg (by omega), if_neg (by omega), if_neg (by omega)]; done)
              | (subst hx48; first | exact hS1 | exact hT1 | (show _ = sumN (vS (sV s)) (vn (sV s)).toNat; rw [show i = (vn (sV s)).toNat by omega]) | (show _ = sumN (vL (sV s)) (vn (sV s)).toNat; rw [show i = (vn (sV s)).toNat by omega]))
          · refine ⟨105, 153, rfl, by decide, ?_⟩
            refine x_iload_n 154 3 dX7_count_153 rfl rfl (by decide) rfl ?_
            refine x_iret dX7_count_154 rfl ⟨rfl, Nat.le_refl _⟩ (qi_i ?_)
            refine PM.same hC ?_
            unfold aCount
            first
              | (rw [if_neg (by omega), if_neg (by omega), if_neg (by omega), if_neg (by omega), if_neg (by omega), if_neg (by omega)]; done)
              | (subst hx48; first | exact hS1 | exact hT1 | (show _ = sumN (vS (sV s)) (vn (sV s)).toNat; rw [show i = (vn (sV s)).toNat by omega]) | (show _ = sumN (vL (sV s)) (vn (sV s)).toNat; rw [show i = (vn (sV s)).toNat by omega]))
      · have eS : M 51 (5 + (i : Int)) = vS (sV s) i := hV.S (by omega) (by omega) (by omega)
        have eL : M 51 (10 + (i : Int)) = vL (sV s) i := hV.L (by omega) (by omega) (by omega)
        refine x_iload_n 17 2 dX7_count_16 rfl rfl (by decide) rfl ?_
        refine x_aload_n 18 0 dX7_count_17 rfl rfl (by decide) rfl ?_
        refine x_getR 21 0 51 dX7_count_18 rfl fX7_7 rfl rfl rfl ?_
        refine x_iconst 22 dX7_count_21 rfl ?_
        refine x_iload 24 4 dX7_count_22 rfl (by decide) rfl ?_
        refine x_iadd 25 dX7_count_24 rfl ?_
        refine x_iaload 26 dX7_count_25 rfl rfl (by omega) (fun g25 => ?_)
        rw [eS]
        refine x_iadd 27 dX7_count_26 rfl ?_
        refine x_istore_n 28 2 _ dX7_count_27 rfl rfl (by decide) rfl rfl ?_
        refine x_iload_n 29 3 dX7_count_28 rfl rfl (by decide) rfl ?_
        refine x_aload_n 30 0 dX7_count_29 rfl rfl (by decide) rfl ?_
        refine x_getR 33 0 51 dX7_count_30 rfl fX7_7 rfl rfl rfl ?_
        refine x_bipush 35 dX7_count_33 rfl (by decide) ?_
        refine x_iload 37 4 dX7_count_35 rfl (by decide) rfl ?_
        refine x_iadd 38 dX7_count_37 rfl ?_
        refine x_iaload 39 dX7_count_38 rfl rfl (by omega) (fun g38 => ?_)
        rw [eL]
        refine x_iadd 40 dX7_count_39 rfl ?_
        refine x_istore_n 41 3 _ dX7_count_40 rfl rfl (by decide) rfl rfl ?_
        refine x_iinc 44 _ dX7_count_41 rfl (by decide) rfl rfl rfl ?_
        refine x_goto 7 dX7_count_44 (by decide) ?_
        exact ih (i + 1) (by omega) (by omega)
  refine x_iconst 1 dX7_count_0 rfl ?_
  refine x_istore_n 2 2 _ dX7_count_1 rfl rfl (by decide) rfl rfl ?_
  refine x_iconst 3 dX7_count_2 rfl ?_
  refine x_istore_n 4 3 _ dX7_count_3 rfl rfl (by decide) rfl rfl ?_
  refine x_iconst 5 dX7_count_4 rfl ?_
  refine x_istore 7 4 _ dX7_count_5 rfl (by decide) rfl rfl ?_
  exact loop ((vn (sV s)).toNat + 1) 0 (by omega) (by omega)
