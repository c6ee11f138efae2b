set_option maxHeartbeats 4000000 in
theorem p_ask {g : GG} {M : Mem} {s : ST} (hC : Cls M s) (hO : SOK s) (t w : Int) (ht : -2147483648 ≤ t ∧ t ≤ 2147483647) (hw : -2147483648 ≤ w ∧ w ≤ 2147483647) : CI g tX6_ask 7 [rv g 0, iv t, iv w] M (PC M (aAsk s t w) s) := by
  refine Con.of [some (rv g 0), some (iv t), some (iv w), none, none] (by decide +kernel) rfl (Nat.le_of_ble_eq_true rfl) ?_
  obtain ⟨hV, ⟨hk0, hk1, hi0, hi1⟩, ⟨hT1, hT2⟩, ⟨hS1, hS2⟩, hZ, hN, hF⟩ := id hC
  obtain ⟨oV, oW, oI0, oI1, oT, oTb, oS, oSb, oZ⟩ := id hO
  obtain ⟨e6, e7, e8, e4, e5⟩ := id hV
  have o1 := oV.1
  have o2 := oV.2.1
  have o3 := oV.2.2.1
  refine x_aload_n 1 0 dX6_ask_0 rfl rfl (by decide) rfl ?_
  refine x_getR 4 2 4 dX6_ask_1 rfl fX6_24 rfl rfl rfl ?_
  refine x_iload_n 5 1 dX6_ask_4 rfl rfl (by decide) rfl ?_
  refine x_vp 8 [_] (c_hasTown (o := 4) (Or.inl rfl) t ht) mX1_hasTown kX6_120 dX6_ask_5 rfl rfl ⟨by decide, rfl⟩ rfl rfl (Nat.le_of_ble_eq_true rfl) (by decide) ?_
  refine x_ifeq_b 19 11 dX6_ask_8 (by decide) rfl (fun h8 => ?_) (fun h8 => ?_)
  · refine x_iconst 20 dX6_ask_19 rfl ?_
    refine x_iret dX6_ask_20 rfl ⟨rfl, Nat.le_refl _⟩ (qi_i ?_)
    refine PC.same hC ?_
    unfold aAsk; rw [if_neg (by omega)]
  · refine x_iload_n 12 2 dX6_ask_11 rfl rfl (by decide) rfl ?_
    refine x_iconst 13 dX6_ask_12 rfl ?_
    refine x_sp 16 [_, _] (c_within _ _ (by omega) (by omega)) mX6_within kX6_70 dX6_ask_13 rfl rfl rfl (Nat.le_of_ble_eq_true rfl) (by decide) ?_
    refine x_ifne_b 21 19 dX6_ask_16 (by decide) rfl (fun h16 => ?_) (fun h16 => ?_)
    · have ht2 : 0 ≤ t ∧ t < vn (sV s) := by omega
      have hbl : bitN (stB s t) 21 < 2 ^ 21 := bitN_lt _ _
      have hbl2 : bitN (stB s t) 21 < 2097152 := hbl
      have hbs : bsum (bitN (stB s t) 21) 24 = bsum (bitN (stB s t) 21) 21 := bsum_hi hbl 3
      have hbs2 := bsum_le (bitN (stB s t) 21) 21
      have loop : ∀ (m k : Nat) (M2 : Mem), 21 - k < m → k ≤ 21 → SF M M2 → BS M2 (askB s t k) → (∀ v k : Nat, v < 21 → k < 21 → M2 26 (21 * (v : Int) + k) = wkL (goV (sTry s t v) k) 0) → X g tX6_ask (kk0 7) 46 [some (rv g 0), some (iv t), some (iv w), some (iv ((bitN (stB s t) 21 : Nat) : Int)), some (iv k)] [] (S0, R0, M2) (QI (PC M (aAsk s t w) s)) := by
        intro m
        induction m with
        | zero => intro k M2 k1 k2; omega
        | succ m ih =>
          intro k M2 k1 k2 hSF hB hno
          have hwl := worst_le s t k 21
          refine x_iload 48 4 dX6_ask_46 rfl (by decide) rfl ?_
          refine x_bipush 50 dX6_ask_48 rfl (by decide) ?_
          refine x_icmp_ge 75 53 dX6_ask_50 (by decide) rfl (by omega) (fun h50 => ?_) (fun h50 => ?_)
          · refine x_aload_n 76 0 dX6_ask_75 rfl rfl (by decide) rfl ?_
            refine x_getR 79 8 24 dX6_ask_76 rfl fX6_55 rfl rfl rfl ?_
            refine x_iload_n 80 2 dX6_ask_79 rfl rfl (by decide) rfl ?_
            refine x_vp 83 [_] (c_banswer w (by omega)) mX0_answer kX6_205 dX6_ask_80 rfl rfl ⟨by decide, rfl⟩ rfl rfl (Nat.le_of_ble_eq_true rfl) (by decide) ?_
            refine x_iret dX6_ask_83 rfl ⟨rfl, Nat.le_refl _⟩ (qi_i ?_)
            have hk : k = 21 := by omega
            subst hk
            refine PC.scr hC ?_ hSF
            have y : aAsk s t w = ansB (askB s t 21) w := by (unfold aAsk; rw [if_pos (by omega)])
            rw [y]
            unfold ansB; rw [hB.1, hB.2]
          · refine x_aload_n 54 0 dX6_ask_53 rfl rfl (by decide) rfl ?_
            refine x_getR 57 8 24 dX6_ask_54 rfl fX6_55 rfl rfl rfl ?_
            refine x_iload 59 4 dX6_ask_57 rfl (by decide) rfl ?_
            refine x_aload_n 60 0 dX6_ask_59 rfl rfl (by decide) rfl ?_
            refine x_iload_n 61 3 dX6_ask_60 rfl rfl (by decide) rfl ?_
            refine x_iload 63 4 dX6_ask_61 rfl (by decide) rfl ?_
            refine x_vi 66 [_, _] (c_leftAtWorst hO t k (by omega) hno) mX6_leftAtWorst kX6_262 dX6_ask_63 rfl rfl ⟨by decide, rfl⟩ rfl rfl (Nat.le_of_ble_eq_true rfl) (by decide) (fun r4 M4 q4 => ?_)
            obtain ⟨rfl, hF4⟩ := q4
            have hB4 : BS M4 (askB s t k) := by (unfold BS; rw [hF4 24 (by omega)]; exact hB)
            have hS4 : SF M M4 := fun a ha => (hF4 a (fun e => ha (by rw [e]; unfold Scr; omega))).trans (hSF a ha)
            refine x_vv 69 [_, _] (c_boffer _ _ (by omega) (by omega)) mX0_offer kX6_195 dX6_ask_66 rfl rfl ⟨by decide, rfl⟩ rfl rfl (Nat.le_of_ble_eq_true rfl) (by decide) (fun M5 q5 => ?_)
            have hB5 := hB4.put (k : Int) ((worst s t k 21 : Nat) : Int)
            have hS5 := hS4.put (k : Int) ((worst s t k 21 : Nat) : Int)
            rw [← q5] at hB5 hS5
            have h26 : M5 26 = M2 26 := by
              rw [q5]
              split
              · rw [up2_o _ _ _ (by omega), up2_o _ _ _ (by omega)]; exact hF4 26 (by omega)
              · exact hF4 26 (by omega)
            refine x_iinc 72 _ dX6_ask_69 rfl (by decide) rfl rfl rfl ?_
            refine x_goto 46 dX6_ask_72 (by decide) ?_
            exact ih (k + 1) _ (by omega) (by omega) hS5 hB5 (fun v c a1 a2 => by rw [h26]; exact hno v c a1 a2)
      refine x_aload_n 22 0 dX6_ask_21 rfl rfl (by decide) rfl ?_
      refine x_iload_n 23 1 dX6_ask_22 rfl rfl (by decide) rfl ?_
      refine x_vi 26 [_] (c_strSeen hC hO t ht2) mX6_strengthsAsSeen kX6_256 dX6_ask_23 rfl rfl ⟨by decide, rfl⟩ rfl rfl (Nat.le_of_ble_eq_true rfl) (by decide) (fun r2 M2 q2 => ?_)
      obtain ⟨rfl, hS2x⟩ := q2
      have hC2 := hC.keep (fun a _ hs => hS2x a hs)
      refine x_istore_n 27 3 _ dX6_ask_26 rfl rfl (by decide) rfl rfl ?_
      refine x_aload_n 28 0 dX6_ask_27 rfl rfl (by decide) rfl ?_
      refine x_iload_n 29 1 dX6_ask_28 rfl rfl (by decide) rfl ?_
      refine x_vv 32 [_] (c_noteOutcomes hC2 hO t ht2) mX6_noteOutcomes kX6_259 dX6_ask_29 rfl rfl ⟨by decide, rfl⟩ rfl rfl (Nat.le_of_ble_eq_true rfl) (by decide) (fun M3 q3 => ?_)
      obtain ⟨hS3, hno⟩ := q3
      refine x_aload_n 33 0 dX6_ask_32 rfl rfl (by decide) rfl ?_
      refine x_getR 36 8 24 dX6_ask_33 rfl fX6_55 rfl rfl rfl ?_
      refine x_iload_n 37 3 dX6_ask_36 rfl rfl (by decide) rfl ?_
      refine x_sp 40 [_] (c_bitCount (bitN (stB s t) 21) (by omega)) mJ6_bitCount_0f7a4 kX6_235 dX6_ask_37 rfl rfl rfl (Nat.le_of_ble_eq_true rfl) (by decide) ?_
      refine x_vv 43 [_] (c_bstart _ (by omega)) mX0_start kX6_189 dX6_ask_40 rfl rfl ⟨by decide, rfl⟩ rfl rfl (Nat.le_of_ble_eq_true rfl) (by decide) (fun M0 q0 => ?_)
      subst q0
      refine x_iconst 44 dX6_ask_43 rfl ?_
      refine x_istore 46 4 _ dX6_ask_44 rfl (by decide) rfl rfl ?_
      refine loop 22 0 _ (by omega) (by omega) (((hS2x.tr hS3).up _ _ _ (by unfold Scr; omega)).up _ _ _ (by unfold Scr; omega)) ⟨?_, ?_⟩ (fun v c a1 a2 => ?_)
      · rw [up2_k _ _ _ (by omega), up2_s]; rfl
      · rw [up2_s, hbs]; rfl
      · rw [up2_o _ _ _ (by omega), up2_o _ _ _ (by omega)]; exact hno v c a1 a2
    · refine x_iconst 20 dX6_ask_19 rfl ?_
      refine x_iret dX6_ask_20 rfl ⟨rfl, Nat.le_refl _⟩ (qi_i ?_)
      refine PC.same hC ?_
      unfold aAsk; rw [if_neg (by omega)]
