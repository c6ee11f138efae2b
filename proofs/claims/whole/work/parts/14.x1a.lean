theorem x_cut {g : GG} {T : XT} {K : XK} {pc : Nat} {L : List (Option Value)} {st : List Value} {hp : Hp} {Q : Option Value → Hp → Prop} (m : Nat) (P : Int → Prop) (k1 : (∀ z, P z → X g T K m L (iv z :: st) hp Q) → X g T K pc L st hp Q) (k2 : ∀ z, P z → X g T K m L (iv z :: st) hp Q) : X g T K pc L st hp Q := k1 k2
theorem x_cutJ {g : GG} {T : XT} {K : XK} {pc : Nat} {L : List (Option Value)} {st : List Value} {hp : Hp} {Q : Option Value → Hp → Prop} (m : Nat) (P : Int → Prop) (k1 : (∀ z, P z → X g T K m L (jv z :: st) hp Q) → X g T K pc L st hp Q) (k2 : ∀ z, P z → X g T K m L (jv z :: st) hp Q) : X g T K pc L st hp Q := k1 k2

set_option maxHeartbeats 4000000 in
theorem c_imax {g : GG} {M : Mem} (x y : Int) (hx : -2147483648 ≤ x ∧ x ≤ 2147483647) (hy : -2147483648 ≤ y ∧ y ≤ 2147483647) : CP g tJ9_max_7cf53 0 [iv x, iv y] M (max x y) := by
  refine Con.ofF [some (iv x), some (iv y)] (by decide +kernel) rfl (Nat.le_of_ble_eq_true rfl) ?_
  refine x_iload_n 1 0 dJ9_max_7cf53_0 rfl rfl (by decide) rfl ?_
  refine x_iload_n 2 1 dJ9_max_7cf53_1 rfl rfl (by decide) rfl ?_
  refine x_icmp_lt 9 5 dJ9_max_7cf53_2 (by decide) rfl (by omega) (fun h2 => ?_) (fun h2 => ?_)
  · refine x_iload_n 10 1 dJ9_max_7cf53_9 rfl rfl (by decide) rfl ?_
    refine x_iret dJ9_max_7cf53_10 rfl ⟨rfl, Nat.le_refl _⟩ (qp_i ?_ rfl)
    omega
  · refine x_iload_n 6 0 dJ9_max_7cf53_5 rfl rfl (by decide) rfl ?_
    refine x_goto 10 dJ9_max_7cf53_6 (by decide) ?_
    refine x_iret dJ9_max_7cf53_10 rfl ⟨rfl, Nat.le_refl _⟩ (qp_i ?_ rfl)
    omega

set_option maxHeartbeats 4000000 in
theorem c_imin {g : GG} {M : Mem} (x y : Int) (hx : -2147483648 ≤ x ∧ x ≤ 2147483647) (hy : -2147483648 ≤ y ∧ y ≤ 2147483647) : CP g tJ9_min_7cf53 0 [iv x, iv y] M (min x y) := by
  refine Con.ofF [some (iv x), some (iv y)] (by decide +kernel) rfl (Nat.le_of_ble_eq_true rfl) ?_
  refine x_iload_n 1 0 dJ9_min_7cf53_0 rfl rfl (by decide) rfl ?_
  refine x_iload_n 2 1 dJ9_min_7cf53_1 rfl rfl (by decide) rfl ?_
  refine x_icmp_gt 9 5 dJ9_min_7cf53_2 (by decide) rfl (by omega) (fun h2 => ?_) (fun h2 => ?_)
  · refine x_iload_n 10 1 dJ9_min_7cf53_9 rfl rfl (by decide) rfl ?_
    refine x_iret dJ9_min_7cf53_10 rfl ⟨rfl, Nat.le_refl _⟩ (qp_i ?_ rfl)
    omega
  · refine x_iload_n 6 0 dJ9_min_7cf53_5 rfl rfl (by decide) rfl ?_
    refine x_goto 10 dJ9_min_7cf53_6 (by decide) ?_
    refine x_iret dJ9_min_7cf53_10 rfl ⟨rfl, Nat.le_refl _⟩ (qp_i ?_ rfl)
    omega

set_option maxHeartbeats 4000000 in
theorem c_hasTown {g : GG} {M : Mem} {o : Nat} (ho : isLg o) (t : Int) (h_t : -2147483648 ≤ t ∧ t ≤ 2147483647) : CP g tX1_hasTown 0 [rv g o, iv t] M (bI (0 ≤ t ∧ t < M o 6)) := by
  refine Con.of [some (rv g o), some (iv t)] (by decide +kernel) rfl (Nat.le_of_ble_eq_true rfl) ?_
  refine x_iload_n 1 1 dX1_hasTown_0 rfl rfl (by decide) rfl ?_
  refine x_if_lt 16 4 dX1_hasTown_1 (by decide) rfl (by omega) (fun h1 => ?_) (fun h1 => ?_)
  · refine x_iconst 17 dX1_hasTown_16 rfl ?_
    refine x_zret dX1_hasTown_17 rfl (by first | exact Or.inl rfl | exact Or.inr rfl | exact bI_or _ | omega) ⟨rfl, Nat.le_refl _⟩ (qp_i ?_ rfl)
    first | exact (bI_t (by omega)).symm | exact (bI_f (by omega)).symm
  · refine x_iload_n 5 1 dX1_hasTown_4 rfl rfl (by decide) rfl ?_
    refine x_aload_n 6 0 dX1_hasTown_5 rfl rfl (by decide) rfl ?_
    refine x_getI 9 6 6 rfl dX1_hasTown_6 rfl fX1_30 rfl (lg_s ho) (fun g6 => ?_)
    refine x_icmp_ge 16 12 dX1_hasTown_9 (by decide) rfl (by omega) (fun h9 => ?_) (fun h9 => ?_)
    · refine x_iconst 17 dX1_hasTown_16 rfl ?_
      refine x_zret dX1_hasTown_17 rfl (by first | exact Or.inl rfl | exact Or.inr rfl | exact bI_or _ | omega) ⟨rfl, Nat.le_refl _⟩ (qp_i ?_ rfl)
      first | exact (bI_t (by omega)).symm | exact (bI_f (by omega)).symm
    · refine x_iconst 13 dX1_hasTown_12 rfl ?_
      refine x_goto 17 dX1_hasTown_13 (by decide) ?_
      refine x_zret dX1_hasTown_17 rfl (by first | exact Or.inl rfl | exact Or.inr rfl | exact bI_or _ | omega) ⟨rfl, Nat.le_refl _⟩ (qp_i ?_ rfl)
      first | exact (bI_t (by omega)).symm | exact (bI_f (by omega)).symm

set_option maxHeartbeats 4000000 in
theorem c_hasFixture {g : GG} {M : Mem} {o : Nat} (ho : isLg o) (t : Int) (h_t : -2147483648 ≤ t ∧ t ≤ 2147483647) : CP g tX1_hasFixture 0 [rv g o, iv t] M (bI (0 ≤ t ∧ t < M o 7)) := by
  refine Con.of [some (rv g o), some (iv t)] (by decide +kernel) rfl (Nat.le_of_ble_eq_true rfl) ?_
  refine x_iload_n 1 1 dX1_hasFixture_0 rfl rfl (by decide) rfl ?_
  refine x_if_lt 16 4 dX1_hasFixture_1 (by decide) rfl (by omega) (fun h1 => ?_) (fun h1 => ?_)
  · refine x_iconst 17 dX1_hasFixture_16 rfl ?_
    refine x_zret dX1_hasFixture_17 rfl (by first | exact Or.inl rfl | exact Or.inr rfl | exact bI_or _ | omega) ⟨rfl, Nat.le_refl _⟩ (qp_i ?_ rfl)
    first | exact (bI_t (by omega)).symm | exact (bI_f (by omega)).symm
  · refine x_iload_n 5 1 dX1_hasFixture_4 rfl rfl (by decide) rfl ?_
    refine x_aload_n 6 0 dX1_hasFixture_5 rfl rfl (by decide) rfl ?_
    refine x_getI 9 7 7 rfl dX1_hasFixture_6 rfl fX1_34 rfl (lg_s ho) (fun g6 => ?_)
    refine x_icmp_ge 16 12 dX1_hasFixture_9 (by decide) rfl (by omega) (fun h9 => ?_) (fun h9 => ?_)
    · refine x_iconst 17 dX1_hasFixture_16 rfl ?_
      refine x_zret dX1_hasFixture_17 rfl (by first | exact Or.inl rfl | exact Or.inr rfl | exact bI_or _ | omega) ⟨rfl, Nat.le_refl _⟩ (qp_i ?_ rfl)
      first | exact (bI_t (by omega)).symm | exact (bI_f (by omega)).symm
    · refine x_iconst 13 dX1_hasFixture_12 rfl ?_
      refine x_goto 17 dX1_hasFixture_13 (by decide) ?_
      refine x_zret dX1_hasFixture_17 rfl (by first | exact Or.inl rfl | exact Or.inr rfl | exact bI_or _ | omega) ⟨rfl, Nat.le_refl _⟩ (qp_i ?_ rfl)
      first | exact (bI_t (by omega)).symm | exact (bI_f (by omega)).symm

set_option maxHeartbeats 4000000 in
theorem c_hasPair {g : GG} {M : Mem} {o : Nat} (ho : isLg o) (a b : Int) (h_a : -2147483648 ≤ a ∧ a ≤ 2147483647) (h_b : -2147483648 ≤ b ∧ b ≤ 2147483647) : CP g tX1_hasPair 1 [rv g o, iv a, iv b] M (bI ((0 ≤ a ∧ a < M o 6) ∧ (0 ≤ b ∧ b < M o 6) ∧ a ≠ b)) := by
  refine Con.of [some (rv g o), some (iv a), some (iv b)] (by decide +kernel) rfl (Nat.le_of_ble_eq_true rfl) ?_
  refine x_aload_n 1 0 dX1_hasPair_0 rfl rfl (by decide) rfl ?_
  refine x_iload_n 2 1 dX1_hasPair_1 rfl rfl (by decide) rfl ?_
  refine x_vp 5 [_] (c_hasTown ho _ (by omega)) mX1_hasTown kX1_40 dX1_hasPair_2 rfl (lg_s ho) ⟨by decide, rfl⟩ rfl rfl (Nat.le_of_ble_eq_true rfl) (by decide) ?_
  refine x_ifeq_b 25 8 dX1_hasPair_5 (by decide) rfl (fun h5 => ?_) (fun h5 => ?_)
  · refine x_iconst 26 dX1_hasPair_25 rfl ?_
    refine x_zret dX1_hasPair_26 rfl (by first | exact Or.inl rfl | exact Or.inr rfl | exact bI_or _ | omega) ⟨rfl, Nat.le_refl _⟩ (qp_i ?_ rfl)
    first | exact (bI_t (by omega)).symm | exact (bI_f (by omega)).symm
  · refine x_aload_n 9 0 dX1_hasPair_8 rfl rfl (by decide) rfl ?_
    refine x_iload_n 10 2 dX1_hasPair_9 rfl rfl (by decide) rfl ?_
    refine x_vp 13 [_] (c_hasTown ho _ (by omega)) mX1_hasTown kX1_40 dX1_hasPair_10 rfl (lg_s ho) ⟨by decide, rfl⟩ rfl rfl (Nat.le_of_ble_eq_true rfl) (by decide) ?_
    refine x_ifeq_b 25 16 dX1_hasPair_13 (by decide) rfl (fun h13 => ?_) (fun h13 => ?_)
    · refine x_iconst 26 dX1_hasPair_25 rfl ?_
      refine x_zret dX1_hasPair_26 rfl (by first | exact Or.inl rfl | exact Or.inr rfl | exact bI_or _ | omega) ⟨rfl, Nat.le_refl _⟩ (qp_i ?_ rfl)
      first | exact (bI_t (by omega)).symm | exact (bI_f (by omega)).symm
    · refine x_iload_n 17 1 dX1_hasPair_16 rfl rfl (by decide) rfl ?_
      refine x_iload_n 18 2 dX1_hasPair_17 rfl rfl (by decide) rfl ?_
      refine x_icmp_eq 25 21 dX1_hasPair_18 (by decide) rfl (by omega) (fun h18 => ?_) (fun h18 => ?_)
      · refine x_iconst 26 dX1_hasPair_25 rfl ?_
        refine x_zret dX1_hasPair_26 rfl (by first | exact Or.inl rfl | exact Or.inr rfl | exact bI_or _ | omega) ⟨rfl, Nat.le_refl _⟩ (qp_i ?_ rfl)
        first | exact (bI_t (by omega)).symm | exact (bI_f (by omega)).symm
      · refine x_iconst 22 dX1_hasPair_21 rfl ?_
        refine x_goto 26 dX1_hasPair_22 (by decide) ?_
        refine x_zret dX1_hasPair_26 rfl (by first | exact Or.inl rfl | exact Or.inr rfl | exact bI_or _ | omega) ⟨rfl, Nat.le_refl _⟩ (qp_i ?_ rfl)
        first | exact (bI_t (by omega)).symm | exact (bI_f (by omega)).symm

set_option maxHeartbeats 4000000 in
theorem c_isFullOfTowns {g : GG} {M : Mem} {o : Nat} (ho : isLg o) : CP g tX1_isFullOfTowns 0 [rv g o] M (bI (5 ≤ M o 6)) := by
  refine Con.of [some (rv g o)] (by decide +kernel) rfl (Nat.le_of_ble_eq_true rfl) ?_
  refine x_aload_n 1 0 dX1_isFullOfTowns_0 rfl rfl (by decide) rfl ?_
  refine x_getI 4 6 6 rfl dX1_isFullOfTowns_1 rfl fX1_30 rfl (lg_s ho) (fun g1 => ?_)
  refine x_iconst 5 dX1_isFullOfTowns_4 rfl ?_
  refine x_icmp_lt 12 8 dX1_isFullOfTowns_5 (by decide) rfl (by omega) (fun h5 => ?_) (fun h5 => ?_)
  · refine x_iconst 13 dX1_isFullOfTowns_12 rfl ?_
    refine x_zret dX1_isFullOfTowns_13 rfl (by first | exact Or.inl rfl | exact Or.inr rfl | exact bI_or _ | omega) ⟨rfl, Nat.le_refl _⟩ (qp_i ?_ rfl)
    first | exact (bI_t (by omega)).symm | exact (bI_f (by omega)).symm
  · refine x_iconst 9 dX1_isFullOfTowns_8 rfl ?_
    refine x_goto 13 dX1_isFullOfTowns_9 (by decide) ?_
    refine x_zret dX1_isFullOfTowns_13 rfl (by first | exact Or.inl rfl | exact Or.inr rfl | exact bI_or _ | omega) ⟨rfl, Nat.le_refl _⟩ (qp_i ?_ rfl)
    first | exact (bI_t (by omega)).symm | exact (bI_f (by omega)).symm

set_option maxHeartbeats 4000000 in
theorem c_isFullOfFixtures {g : GG} {M : Mem} {o : Nat} (ho : isLg o) : CP g tX1_isFullOfFixtures 0 [rv g o] M (bI (10 ≤ M o 7)) := by
  refine Con.of [some (rv g o)] (by decide +kernel) rfl (Nat.le_of_ble_eq_true rfl) ?_
  refine x_aload_n 1 0 dX1_isFullOfFixtures_0 rfl rfl (by decide) rfl ?_
  refine x_getI 4 7 7 rfl dX1_isFullOfFixtures_1 rfl fX1_34 rfl (lg_s ho) (fun g1 => ?_)
  refine x_bipush 6 dX1_isFullOfFixtures_4 rfl (by decide) ?_
  refine x_icmp_lt 13 9 dX1_isFullOfFixtures_6 (by decide) rfl (by omega) (fun h6 => ?_) (fun h6 => ?_)
  · refine x_iconst 14 dX1_isFullOfFixtures_13 rfl ?_
    refine x_zret dX1_isFullOfFixtures_14 rfl (by first | exact Or.inl rfl | exact Or.inr rfl | exact bI_or _ | omega) ⟨rfl, Nat.le_refl _⟩ (qp_i ?_ rfl)
    first | exact (bI_t (by omega)).symm | exact (bI_f (by omega)).symm
  · refine x_iconst 10 dX1_isFullOfFixtures_9 rfl ?_
    refine x_goto 14 dX1_isFullOfFixtures_10 (by decide) ?_
    refine x_zret dX1_isFullOfFixtures_14 rfl (by first | exact Or.inl rfl | exact Or.inr rfl | exact bI_or _ | omega) ⟨rfl, Nat.le_refl _⟩ (qp_i ?_ rfl)
    first | exact (bI_t (by omega)).symm | exact (bI_f (by omega)).symm

set_option maxHeartbeats 4000000 in
theorem c_clear {g : GG} {M : Mem} {o : Nat} (ho : isLg o) : CV g tX1_clear 0 [rv g o] M (fun M2 => M2 = up2 (up2 (up2 M o 6 0) o 7 0) o 8 0) := by
  refine Con.of [some (rv g o)] (by decide +kernel) rfl (Nat.le_of_ble_eq_true rfl) ?_
  refine x_aload_n 1 0 dX1_clear_0 rfl rfl (by decide) rfl ?_
  refine x_iconst 2 dX1_clear_1 rfl ?_
  refine x_putI 5 6 6 rfl dX1_clear_2 rfl fX1_30 rfl rfl (lg_s ho) (by omega) ?_
  refine x_aload_n 6 0 dX1_clear_5 rfl rfl (by decide) rfl ?_
  refine x_iconst 7 dX1_clear_6 rfl ?_
  refine x_putI 10 7 7 rfl dX1_clear_7 rfl fX1_34 rfl rfl (lg_s ho) (by omega) ?_
  refine x_aload_n 11 0 dX1_clear_10 rfl rfl (by decide) rfl ?_
  refine x_iconst 12 dX1_clear_11 rfl ?_
  refine x_putI 15 8 8 rfl dX1_clear_12 rfl fX1_37 rfl rfl (lg_s ho) (by omega) ?_
  refine x_vret dX1_clear_15 rfl ⟨rfl, Nat.le_refl _⟩ (qv_i ?_)
  rfl

set_option maxHeartbeats 4000000 in
theorem c_fixtureNow {g : GG} {M : Mem} {o : Nat} (ho : isLg o) (hw : 0 ≤ M o 8) : CP g tX1_fixtureNow 0 [rv g o] M (if 0 < M o 7 then M o 8 % M o 7 else -4) := by
  refine Con.of [some (rv g o)] (by decide +kernel) rfl (Nat.le_of_ble_eq_true rfl) ?_
  refine x_aload_n 1 0 dX1_fixtureNow_0 rfl rfl (by decide) rfl ?_
  refine x_getI 4 7 7 rfl dX1_fixtureNow_1 rfl fX1_34 rfl (lg_s ho) (fun g1 => ?_)
  refine x_if_le 19 7 dX1_fixtureNow_4 (by decide) rfl (by omega) (fun h4 => ?_) (fun h4 => ?_)
  · refine x_bipush 21 dX1_fixtureNow_19 rfl (by decide) ?_
    refine x_iret dX1_fixtureNow_21 rfl ⟨rfl, Nat.le_refl _⟩ (qp_i ?_ rfl)
    first | rw [if_pos (by omega)] | rw [if_neg (by omega)]
  · refine x_aload_n 8 0 dX1_fixtureNow_7 rfl rfl (by decide) rfl ?_
    refine x_getI 11 8 8 rfl dX1_fixtureNow_8 rfl fX1_37 rfl (lg_s ho) (fun g8 => ?_)
    refine x_aload_n 12 0 dX1_fixtureNow_11 rfl rfl (by decide) rfl ?_
    refine x_getI 15 7 7 rfl dX1_fixtureNow_12 rfl fX1_34 rfl (lg_s ho) (fun g12 => ?_)
    refine x_irem 16 dX1_fixtureNow_15 rfl (by omega) ?_
    refine x_goto 21 dX1_fixtureNow_16 (by decide) ?_
    refine x_iret dX1_fixtureNow_21 rfl ⟨rfl, Nat.le_refl _⟩ (qp_i ?_ rfl)
    first | rw [if_pos (by omega)] | rw [if_neg (by omega)]

set_option maxHeartbeats 4000000 in
theorem c_trainsNow {g : GG} {M : Mem} {o : Nat} (ho : isLg o) (t : Int) (ht : 0 ≤ t ∧ t < 5) : CP g tX1_trainsNow 0 [rv g o, iv t] M (if M (o + 1) t = 1 then 2 else if M (o + 1) t = 3 then 0 else 1) := by
  refine Con.of [some (rv g o), some (iv t)] (by decide +kernel) rfl (Nat.le_of_ble_eq_true rfl) ?_
  refine x_aload_n 1 0 dX1_trainsNow_0 rfl rfl (by decide) rfl ?_
  refine x_getR 4 0 (o + 1) dX1_trainsNow_1 rfl fX1_9 rfl (lg_s ho) (lg_r0 ho) ?_
  refine x_iload_n 5 1 dX1_trainsNow_4 rfl rfl (by decide) rfl ?_
  refine x_iaload 6 dX1_trainsNow_5 rfl (lg_a0 ho) (by omega) (fun g5 => ?_)
  refine x_lsw2 36 32 34 dX1_trainsNow_6 (by decide) (by decide) (by decide) (by decide) (by omega) (fun h6 => ?_) (fun h6 => ?_) (fun h6 k6 => ?_)
  · refine x_iconst 33 dX1_trainsNow_32 rfl ?_
    refine x_iret dX1_trainsNow_33 rfl ⟨rfl, Nat.le_refl _⟩ (qp_i ?_ rfl)
    split <;> first | omega | (split <;> omega)
  · refine x_iconst 35 dX1_trainsNow_34 rfl ?_
    refine x_iret dX1_trainsNow_35 rfl ⟨rfl, Nat.le_refl _⟩ (qp_i ?_ rfl)
    split <;> first | omega | (split <;> omega)
  · refine x_iconst 37 dX1_trainsNow_36 rfl ?_
    refine x_iret dX1_trainsNow_37 rfl ⟨rfl, Nat.le_refl _⟩ (qp_i ?_ rfl)
    split <;> first | omega | (split <;> omega)
