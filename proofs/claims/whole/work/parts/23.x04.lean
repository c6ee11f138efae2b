set_option maxHeartbeats 4000000 in
theorem c_bstart {g : GG} {M : Mem} (b : Int) (hb : -2147483648 ≤ b ∧ b ≤ 2147483647) : CV g tX0_start 0 [rv g 24, iv b] M (fun M2 => M2 = up2 (up2 M 24 0 (-4)) 24 1 b) := by
  refine Con.of [some (rv g 24), some (iv b)] (by decide +kernel) rfl (Nat.le_of_ble_eq_true rfl) ?_
  refine x_aload_n 1 0 dX0_start_0 rfl rfl (by decide) rfl ?_
  refine x_bipush 3 dX0_start_1 rfl (by decide) ?_
  refine x_putI 6 0 0 rfl dX0_start_3 rfl fX0_9 rfl rfl rfl (by omega) ?_
  refine x_aload_n 7 0 dX0_start_6 rfl rfl (by decide) rfl ?_
  refine x_iload_n 8 1 dX0_start_7 rfl rfl (by decide) rfl ?_
  refine x_putI 11 1 1 rfl dX0_start_8 rfl fX0_15 rfl rfl rfl (by omega) ?_
  refine x_vret dX0_start_11 rfl ⟨rfl, Nat.le_refl _⟩ (qv_i ?_)
  rfl

set_option maxHeartbeats 4000000 in
theorem c_boffer {g : GG} {M : Mem} (c l : Int) (hc : -2147483648 ≤ c ∧ c ≤ 2147483647) (hl : -2147483648 ≤ l ∧ l ≤ 2147483647) : CV g tX0_offer 0 [rv g 24, iv c, iv l] M (fun M2 => M2 = if l < M 24 1 then up2 (up2 M 24 0 c) 24 1 l else M) := by
  refine Con.of [some (rv g 24), some (iv c), some (iv l)] (by decide +kernel) rfl (Nat.le_of_ble_eq_true rfl) ?_
  refine x_iload_n 1 2 dX0_offer_0 rfl rfl (by decide) rfl ?_
  refine x_aload_n 2 0 dX0_offer_1 rfl rfl (by decide) rfl ?_
  refine x_getI 5 1 1 rfl dX0_offer_2 rfl fX0_15 rfl rfl (fun g2 => ?_)
  refine x_icmp_ge 18 8 dX0_offer_5 (by decide) rfl (by omega) (fun h5 => ?_) (fun h5 => ?_)
  · refine x_vret dX0_offer_18 rfl ⟨rfl, Nat.le_refl _⟩ (qv_i ?_)
    first | rw [if_pos (by omega)] | rw [if_neg (by omega)]
  · refine x_aload_n 9 0 dX0_offer_8 rfl rfl (by decide) rfl ?_
    refine x_iload_n 10 1 dX0_offer_9 rfl rfl (by decide) rfl ?_
    refine x_putI 13 0 0 rfl dX0_offer_10 rfl fX0_9 rfl rfl rfl (by omega) ?_
    refine x_aload_n 14 0 dX0_offer_13 rfl rfl (by decide) rfl ?_
    refine x_iload_n 15 2 dX0_offer_14 rfl rfl (by decide) rfl ?_
    refine x_putI 18 1 1 rfl dX0_offer_15 rfl fX0_15 rfl rfl rfl (by omega) ?_
    refine x_vret dX0_offer_18 rfl ⟨rfl, Nat.le_refl _⟩ (qv_i ?_)
    first | rw [if_pos (by omega)] | rw [if_neg (by omega)]

set_option maxHeartbeats 4000000 in
theorem c_banswer {g : GG} {M : Mem} (w : Int) (hw : -2147483648 ≤ w ∧ w ≤ 2147483647) : CP g tX0_answer 0 [rv g 24, iv w] M (if M 24 0 = -4 then -4 else if w = 0 then M 24 0 else M 24 1) := by
  refine Con.of [some (rv g 24), some (iv w)] (by decide +kernel) rfl (Nat.le_of_ble_eq_true rfl) ?_
  refine x_aload_n 1 0 dX0_answer_0 rfl rfl (by decide) rfl ?_
  refine x_getI 4 0 0 rfl dX0_answer_1 rfl fX0_9 rfl rfl (fun g1 => ?_)
  refine x_bipush 6 dX0_answer_4 rfl (by decide) ?_
  refine x_icmp_ne 12 9 dX0_answer_6 (by decide) rfl (by omega) (fun h6 => ?_) (fun h6 => ?_)
  · refine x_iload_n 13 1 dX0_answer_12 rfl rfl (by decide) rfl ?_
    refine x_if_ne 23 16 dX0_answer_13 (by decide) rfl (by omega) (fun h13 => ?_) (fun h13 => ?_)
    · refine x_aload_n 24 0 dX0_answer_23 rfl rfl (by decide) rfl ?_
      refine x_getI 27 1 1 rfl dX0_answer_24 rfl fX0_15 rfl rfl (fun g24 => ?_)
      refine x_iret dX0_answer_27 rfl ⟨rfl, Nat.le_refl _⟩ (qp_i ?_ rfl)
      (repeat' split) <;> omega
    · refine x_aload_n 17 0 dX0_answer_16 rfl rfl (by decide) rfl ?_
      refine x_getI 20 0 0 rfl dX0_answer_17 rfl fX0_9 rfl rfl (fun g17 => ?_)
      refine x_goto 27 dX0_answer_20 (by decide) ?_
      refine x_iret dX0_answer_27 rfl ⟨rfl, Nat.le_refl _⟩ (qp_i ?_ rfl)
      (repeat' split) <;> omega
  · refine x_bipush 11 dX0_answer_9 rfl (by decide) ?_
    refine x_iret dX0_answer_11 rfl ⟨rfl, Nat.le_refl _⟩ (qp_i ?_ rfl)
    (repeat' split) <;> omega

set_option maxHeartbeats 4000000 in
theorem c_isThere {g : GG} {M : Mem} {q : Nat} (hq : isSt q) : CP g tX2_isThere 0 [rv g q] M (bI (M q 2 ≠ -1)) := by
  refine Con.of [some (rv g q)] (by decide +kernel) rfl (Nat.le_of_ble_eq_true rfl) ?_
  refine x_aload_n 1 0 dX2_isThere_0 rfl rfl (by decide) rfl ?_
  refine x_getI 4 2 2 rfl dX2_isThere_1 rfl fX2_15 rfl (st_s hq) (fun g1 => ?_)
  refine x_iconst 5 dX2_isThere_4 rfl ?_
  refine x_icmp_eq 12 8 dX2_isThere_5 (by decide) rfl (by omega) (fun h5 => ?_) (fun h5 => ?_)
  · refine x_iconst 13 dX2_isThere_12 rfl ?_
    refine x_zret dX2_isThere_13 rfl (by first | exact Or.inl rfl | exact Or.inr rfl | exact bI_or _ | omega) ⟨rfl, Nat.le_refl _⟩ (qp_i ?_ rfl)
    first | exact (bI_t (by omega)).symm | exact (bI_f (by omega)).symm
  · refine x_iconst 9 dX2_isThere_8 rfl ?_
    refine x_goto 13 dX2_isThere_9 (by decide) ?_
    refine x_zret dX2_isThere_13 rfl (by first | exact Or.inl rfl | exact Or.inr rfl | exact bI_or _ | omega) ⟨rfl, Nat.le_refl _⟩ (qp_i ?_ rfl)
    first | exact (bI_t (by omega)).symm | exact (bI_f (by omega)).symm

set_option maxHeartbeats 4000000 in
theorem c_hasCell {g : GG} {M : Mem} {q : Nat} (hq : isSt q) (i : Int) (hi : -2147483648 ≤ i ∧ i ≤ 2147483647) : CP g tX2_hasCell 0 [rv g q, iv i] M (bI (0 ≤ i ∧ i < M q 2)) := by
  refine Con.of [some (rv g q), some (iv i)] (by decide +kernel) rfl (Nat.le_of_ble_eq_true rfl) ?_
  refine x_iload_n 1 1 dX2_hasCell_0 rfl rfl (by decide) rfl ?_
  refine x_if_lt 16 4 dX2_hasCell_1 (by decide) rfl (by omega) (fun h1 => ?_) (fun h1 => ?_)
  · refine x_iconst 17 dX2_hasCell_16 rfl ?_
    refine x_zret dX2_hasCell_17 rfl (by first | exact Or.inl rfl | exact Or.inr rfl | exact bI_or _ | omega) ⟨rfl, Nat.le_refl _⟩ (qp_i ?_ rfl)
    first | exact (bI_t (by omega)).symm | exact (bI_f (by omega)).symm
  · refine x_iload_n 5 1 dX2_hasCell_4 rfl rfl (by decide) rfl ?_
    refine x_aload_n 6 0 dX2_hasCell_5 rfl rfl (by decide) rfl ?_
    refine x_getI 9 2 2 rfl dX2_hasCell_6 rfl fX2_15 rfl (st_s hq) (fun g6 => ?_)
    refine x_icmp_ge 16 12 dX2_hasCell_9 (by decide) rfl (by omega) (fun h9 => ?_) (fun h9 => ?_)
    · refine x_iconst 17 dX2_hasCell_16 rfl ?_
      refine x_zret dX2_hasCell_17 rfl (by first | exact Or.inl rfl | exact Or.inr rfl | exact bI_or _ | omega) ⟨rfl, Nat.le_refl _⟩ (qp_i ?_ rfl)
      first | exact (bI_t (by omega)).symm | exact (bI_f (by omega)).symm
    · refine x_iconst 13 dX2_hasCell_12 rfl ?_
      refine x_goto 17 dX2_hasCell_13 (by decide) ?_
      refine x_zret dX2_hasCell_17 rfl (by first | exact Or.inl rfl | exact Or.inr rfl | exact bI_or _ | omega) ⟨rfl, Nat.le_refl _⟩ (qp_i ?_ rfl)
      first | exact (bI_t (by omega)).symm | exact (bI_f (by omega)).symm

set_option maxHeartbeats 4000000 in
theorem c_renew {g : GG} {M : Mem} {q : Nat} (hq : isSt q) (ln : Int) (hln : -2147483648 ≤ ln ∧ ln ≤ 2147483647) (n : Nat) (hn : n ≤ 40) : CV g tX2_renew 0 [rv g q, iv ln, iv n] M (fun M2 => M2 q 1 = ln ∧ M2 q 2 = n ∧ (∀ i : Int, 0 ≤ i → i < n → M2 (q + 1) i = 0) ∧ (∀ a, a ≠ q → a ≠ q + 1 → M2 a = M a)) := by
  refine Con.of [some (rv g q), some (iv ln), some (iv n), none] (by decide +kernel) rfl (Nat.le_of_ble_eq_true rfl) ?_
  have loop : ∀ (m k : Nat) (M2 : Mem), n - k < m → k ≤ n → M2 q 1 = ln → M2 q 2 = n → (∀ i : Int, 0 ≤ i → i < k → M2 (q + 1) i = 0) → (∀ a, a ≠ q → a ≠ q + 1 → M2 a = M a) → X g tX2_renew (kk0 0) 12 [some (rv g q), some (iv ln), some (iv n), some (iv k)] [] (S0, R0, M2) (QV (fun M3 => M3 q 1 = ln ∧ M3 q 2 = n ∧ (∀ i : Int, 0 ≤ i → i < n → M3 (q + 1) i = 0) ∧ (∀ a, a ≠ q → a ≠ q + 1 → M3 a = M a))) := by
    intro m
    induction m with
    | zero => intro k M2 k1 k2; omega
    | succ m ih =>
      intro k M2 k1 k2 a1 a2 a3 a4
      refine x_iload_n 13 3 dX2_renew_12 rfl rfl (by decide) rfl ?_
      refine x_iload_n 14 2 dX2_renew_13 rfl rfl (by decide) rfl ?_
      refine x_icmp_ge 30 17 dX2_renew_14 (by decide) rfl (by omega) (fun h14 => ?_) (fun h14 => ?_)
      · refine x_vret dX2_renew_30 rfl ⟨rfl, Nat.le_refl _⟩ (qv_i ?_)
        have hk : k = n := by omega
        subst hk
        exact ⟨a1, a2, a3, a4⟩
      · refine x_aload_n 18 0 dX2_renew_17 rfl rfl (by decide) rfl ?_
        refine x_getR 21 0 (q + 1) dX2_renew_18 rfl fX2_9 rfl (st_s hq) (st_r0 hq) ?_
        refine x_iload_n 22 3 dX2_renew_21 rfl rfl (by decide) rfl ?_
        refine x_iconst 23 dX2_renew_22 rfl ?_
        refine x_iastore 24 dX2_renew_23 rfl (st_a0 hq) (by omega) (by omega) ?_
        refine x_iinc 27 _ dX2_renew_24 rfl (by decide) rfl rfl rfl ?_
        refine x_goto 12 dX2_renew_27 (by decide) ?_
        refine ih (k + 1) _ (by omega) (by omega) (by rw [up2_o _ _ _ (by omega)]; exact a1) (by rw [up2_o _ _ _ (by omega)]; exact a2) (fun i h1 h2 => ?_) (fun a h1 h2 => by rw [up2_o _ _ _ h2]; exact a4 a h1 h2)
        rw [up2_i]
        split
        · rfl
        · exact a3 i h1 (by omega)
  refine x_aload_n 1 0 dX2_renew_0 rfl rfl (by decide) rfl ?_
  refine x_iload_n 2 1 dX2_renew_1 rfl rfl (by decide) rfl ?_
  refine x_putI 5 1 1 rfl dX2_renew_2 rfl fX2_19 rfl rfl (st_s hq) (by omega) ?_
  refine x_aload_n 6 0 dX2_renew_5 rfl rfl (by decide) rfl ?_
  refine x_iload_n 7 2 dX2_renew_6 rfl rfl (by decide) rfl ?_
  refine x_putI 10 2 2 rfl dX2_renew_7 rfl fX2_15 rfl rfl (st_s hq) (by omega) ?_
  refine x_iconst 11 dX2_renew_10 rfl ?_
  refine x_istore_n 12 3 _ dX2_renew_11 rfl rfl (by decide) rfl rfl ?_
  exact loop (n + 1) 0 _ (by omega) (by omega) (by rw [up2_k _ _ _ (by omega), up2_s]) (up2_s _ _ _ _) (fun i h1 h2 => by omega) (fun a h1 h2 => by rw [up2_o _ _ _ h1, up2_o _ _ _ h1])

/-- what a lane lets through -/
def nrw (ln v : Int) : Int := if ln = 0 then (Int32.ofInt v).toInt8.toInt32.toInt else if ln = 1 then (Int32.ofInt v).toInt16.toInt32.toInt else v
theorem i32_rng (x : Int32) : -2147483648 ≤ x.toInt ∧ x.toInt ≤ 2147483647 := by
  have h1 := Int32.le_toInt x
  have h2 := Int32.toInt_lt x
  omega

set_option maxHeartbeats 4000000 in
theorem c_put {g : GG} {M : Mem} {q : Nat} (hq : isSt q) (i v : Int) (hi : 0 ≤ i ∧ i < 40) (hv : -2147483648 ≤ v ∧ v ≤ 2147483647) : CV g tX2_put 0 [rv g q, iv i, iv v] M (fun M2 => M2 = up2 M (q + 1) i (nrw (M q 1) v)) := by
  refine Con.of [some (rv g q), some (iv i), some (iv v)] (by decide +kernel) rfl (Nat.le_of_ble_eq_true rfl) ?_
  have r8 := i32_rng (Int32.ofInt v).toInt8.toInt32
  have r16 := i32_rng (Int32.ofInt v).toInt16.toInt32
  refine x_aload_n 1 0 dX2_put_0 rfl rfl (by decide) rfl ?_
  refine x_getI 4 1 1 rfl dX2_put_1 rfl fX2_19 rfl (st_s hq) (fun g1 => ?_)
  refine x_lsw2 54 32 43 dX2_put_4 (by decide) (by decide) (by decide) (by decide) (by omega) (fun h4 => ?_) (fun h4 => ?_) (fun h4 k4 => ?_)
  · refine x_aload_n 33 0 dX2_put_32 rfl rfl (by decide) rfl ?_
    refine x_getR 36 0 (q + 1) dX2_put_33 rfl fX2_9 rfl (st_s hq) (st_r0 hq) ?_
    refine x_iload_n 37 1 dX2_put_36 rfl rfl (by decide) rfl ?_
    refine x_iload_n 38 2 dX2_put_37 rfl rfl (by decide) rfl ?_
    refine x_i2b 39 (Int32.ofInt v).toInt8.toInt32.toInt dX2_put_38 rfl (Int32.ofInt_toInt _).symm ?_
    refine x_iastore 40 dX2_put_39 rfl (st_a0 hq) (by omega) (by omega) ?_
    refine x_goto 61 dX2_put_40 (by decide) ?_
    refine x_vret dX2_put_61 rfl ⟨rfl, Nat.le_refl _⟩ (qv_i ?_)
    unfold nrw; first | rw [if_pos (by omega)] | rw [if_neg (by omega), if_pos (by omega)] | rw [if_neg (by omega), if_neg (by omega)]
  · refine x_aload_n 44 0 dX2_put_43 rfl rfl (by decide) rfl ?_
    refine x_getR 47 0 (q + 1) dX2_put_44 rfl fX2_9 rfl (st_s hq) (st_r0 hq) ?_
    refine x_iload_n 48 1 dX2_put_47 rfl rfl (by decide) rfl ?_
    refine x_iload_n 49 2 dX2_put_48 rfl rfl (by decide) rfl ?_
    refine x_i2s 50 (Int32.ofInt v).toInt16.toInt32.toInt dX2_put_49 rfl (Int32.ofInt_toInt _).symm ?_
    refine x_iastore 51 dX2_put_50 rfl (st_a0 hq) (by omega) (by omega) ?_
    refine x_goto 61 dX2_put_51 (by decide) ?_
    refine x_vret dX2_put_61 rfl ⟨rfl, Nat.le_refl _⟩ (qv_i ?_)
    unfold nrw; first | rw [if_pos (by omega)] | rw [if_neg (by omega), if_pos (by omega)] | rw [if_neg (by omega), if_neg (by omega)]
  · refine x_aload_n 55 0 dX2_put_54 rfl rfl (by decide) rfl ?_
    refine x_getR 58 0 (q + 1) dX2_put_55 rfl fX2_9 rfl (st_s hq) (st_r0 hq) ?_
    refine x_iload_n 59 1 dX2_put_58 rfl rfl (by decide) rfl ?_
    refine x_iload_n 60 2 dX2_put_59 rfl rfl (by decide) rfl ?_
    refine x_iastore 61 dX2_put_60 rfl (st_a0 hq) (by omega) (by omega) ?_
    refine x_vret dX2_put_61 rfl ⟨rfl, Nat.le_refl _⟩ (qv_i ?_)
    unfold nrw; first | rw [if_pos (by omega)] | rw [if_neg (by omega), if_pos (by omega)] | rw [if_neg (by omega), if_neg (by omega)]

set_option maxHeartbeats 4000000 in
theorem c_pairFault {g : GG} {M : Mem} {q : Nat} (hq : isSt q) (hz : M q 2 ≤ 40) (ln at_ : Int) (hln : -2147483648 ≤ ln ∧ ln ≤ 2147483647) (hat : -2147483648 ≤ at_ ∧ at_ ≤ 2147483647) : CP g tX2_pairFault 1 [rv g q, iv ln, iv at_] M (if M q 2 = -1 then 1 else if ln ≠ M q 1 then 3 else if 0 ≤ at_ ∧ at_ + 1 < M q 2 then 0 else 2) := by
  refine Con.of [some (rv g q), some (iv ln), some (iv at_)] (by decide +kernel) rfl (Nat.le_of_ble_eq_true rfl) ?_
  refine x_aload_n 1 0 dX2_pairFault_0 rfl rfl (by decide) rfl ?_
  refine x_vp 4 [] (c_isThere hq) mX2_isThere kX2_22 dX2_pairFault_1 rfl (st_s hq) ⟨by decide, rfl⟩ rfl rfl (Nat.le_of_ble_eq_true rfl) (by decide) ?_
  refine x_ifne_b 9 7 dX2_pairFault_4 (by decide) rfl (fun h4 => ?_) (fun h4 => ?_)
  · refine x_iload_n 10 1 dX2_pairFault_9 rfl rfl (by decide) rfl ?_
    refine x_aload_n 11 0 dX2_pairFault_10 rfl rfl (by decide) rfl ?_
    refine x_getI 14 1 1 rfl dX2_pairFault_11 rfl fX2_19 rfl (st_s hq) (fun g11 => ?_)
    refine x_icmp_eq 19 17 dX2_pairFault_14 (by decide) rfl (by omega) (fun h14 => ?_) (fun h14 => ?_)
    · refine x_aload_n 20 0 dX2_pairFault_19 rfl rfl (by decide) rfl ?_
      refine x_iload_n 21 2 dX2_pairFault_20 rfl rfl (by decide) rfl ?_
      refine x_vp 24 [_] (c_hasCell hq _ (by omega)) mX2_hasCell kX2_26 dX2_pairFault_21 rfl (st_s hq) ⟨by decide, rfl⟩ rfl rfl (Nat.le_of_ble_eq_true rfl) (by decide) ?_
      refine x_ifeq_b 37 27 dX2_pairFault_24 (by decide) rfl (fun h24 => ?_) (fun h24 => ?_)
      · refine x_iconst 38 dX2_pairFault_37 rfl ?_
        refine x_iret dX2_pairFault_38 rfl ⟨rfl, Nat.le_refl _⟩ (qp_i ?_ rfl)
        (repeat' split) <;> omega
      · refine x_aload_n 28 0 dX2_pairFault_27 rfl rfl (by decide) rfl ?_
        refine x_iload_n 29 2 dX2_pairFault_28 rfl rfl (by decide) rfl ?_
        refine x_iconst 30 dX2_pairFault_29 rfl ?_
        refine x_iadd 31 dX2_pairFault_30 rfl ?_
        refine x_vp 34 [_] (c_hasCell hq _ (by omega)) mX2_hasCell kX2_26 dX2_pairFault_31 rfl (st_s hq) ⟨by decide, rfl⟩ rfl rfl (Nat.le_of_ble_eq_true rfl) (by decide) ?_
        refine x_ifne_b 39 37 dX2_pairFault_34 (by decide) rfl (fun h34 => ?_) (fun h34 => ?_)
        · refine x_iconst 40 dX2_pairFault_39 rfl ?_
          refine x_iret dX2_pairFault_40 rfl ⟨rfl, Nat.le_refl _⟩ (qp_i ?_ rfl)
          (repeat' split) <;> omega
        · refine x_iconst 38 dX2_pairFault_37 rfl ?_
          refine x_iret dX2_pairFault_38 rfl ⟨rfl, Nat.le_refl _⟩ (qp_i ?_ rfl)
          (repeat' split) <;> omega
    · refine x_iconst 18 dX2_pairFault_17 rfl ?_
      refine x_iret dX2_pairFault_18 rfl ⟨rfl, Nat.le_refl _⟩ (qp_i ?_ rfl)
      (repeat' split) <;> omega
  · refine x_iconst 8 dX2_pairFault_7 rfl ?_
    refine x_iret dX2_pairFault_8 rfl ⟨rfl, Nat.le_refl _⟩ (qp_i ?_ rfl)
    (repeat' split) <;> omega

set_option maxHeartbeats 4000000 in
theorem c_sadd {g : GG} {M : Mem} (h0 : 0 ≤ M 21 2) (w l : Int) (hw : -2147483648 ≤ w ∧ w ≤ 2147483647) (hl : -2147483648 ≤ l ∧ l ≤ 2147483647) : CI g tX3_add 0 [rv g 21, iv w, iv l] M (fun r M2 => r = bI (M 21 2 < 6) ∧ M2 = if M 21 2 < 6 then up2 (up2 (up2 M 22 (M 21 2) w) 23 (M 21 2) l) 21 2 (M 21 2 + 1) else M) := by
  refine Con.of [some (rv g 21), some (iv w), some (iv l)] (by decide +kernel) rfl (Nat.le_of_ble_eq_true rfl) ?_
  refine x_aload_n 1 0 dX3_add_0 rfl rfl (by decide) rfl ?_
  refine x_getI 4 2 2 rfl dX3_add_1 rfl fX3_18 rfl rfl (fun g1 => ?_)
  refine x_bipush 6 dX3_add_4 rfl (by decide) ?_
  refine x_icmp_lt 11 9 dX3_add_6 (by decide) rfl (by omega) (fun h6 => ?_) (fun h6 => ?_)
  · refine x_aload_n 12 0 dX3_add_11 rfl rfl (by decide) rfl ?_
    refine x_getR 15 0 22 dX3_add_12 rfl fX3_11 rfl rfl rfl ?_
    refine x_aload_n 16 0 dX3_add_15 rfl rfl (by decide) rfl ?_
    refine x_getI 19 2 2 rfl dX3_add_16 rfl fX3_18 rfl rfl (fun g16 => ?_)
    refine x_iload_n 20 1 dX3_add_19 rfl rfl (by decide) rfl ?_
    refine x_iastore 21 dX3_add_20 rfl rfl (by omega) (by omega) ?_
    refine x_aload_n 22 0 dX3_add_21 rfl rfl (by decide) rfl ?_
    refine x_getR 25 1 23 dX3_add_22 rfl fX3_15 rfl rfl rfl ?_
    refine x_aload_n 26 0 dX3_add_25 rfl rfl (by decide) rfl ?_
    refine x_getI 29 2 2 rfl dX3_add_26 rfl fX3_18 rfl rfl (fun g26 => ?_)
    refine x_iload_n 30 2 dX3_add_29 rfl rfl (by decide) rfl ?_
    refine x_iastore 31 dX3_add_30 rfl rfl (by rw [up2_o _ _ _ (by omega)]; omega) (by omega) ?_
    refine x_aload_n 32 0 dX3_add_31 rfl rfl (by decide) rfl ?_
    refine x_dup 33 dX3_add_32 rfl rfl ?_
    refine x_getI 36 2 2 rfl dX3_add_33 rfl fX3_18 rfl rfl (fun g33 => ?_)
    refine x_iconst 37 dX3_add_36 rfl ?_
    refine x_iadd 38 dX3_add_37 rfl ?_
    refine x_putI 41 2 2 rfl dX3_add_38 rfl fX3_18 rfl rfl rfl (by rw [up2_o _ _ _ (by omega), up2_o _ _ _ (by omega)]; omega) ?_
    refine x_iconst 42 dX3_add_41 rfl ?_
    refine x_zret dX3_add_42 rfl (by first | exact Or.inl rfl | exact Or.inr rfl | exact bI_or _ | omega) ⟨rfl, Nat.le_refl _⟩ (qi_i ?_)
    refine ⟨(bI_t (by omega)).symm, ?_⟩
    rw [if_pos (by omega), up2_o M _ _ (show 21 ≠ 22 by omega), up2_o _ _ _ (show 21 ≠ 23 by omega), up2_o M _ _ (show 21 ≠ 22 by omega)]
  · refine x_iconst 10 dX3_add_9 rfl ?_
    refine x_zret dX3_add_10 rfl (by first | exact Or.inl rfl | exact Or.inr rfl | exact bI_or _ | omega) ⟨rfl, Nat.le_refl _⟩ (qi_i ?_)
    refine ⟨(bI_f (by omega)).symm, ?_⟩
    rw [if_neg (by omega)]

/-- no sight of week w speaks against l -/
def fitsB (n : Nat) (sw sl : Int → Int) (w l : Int) : Bool := !anyN (fun i => decide (sw i = w ∧ sl i ≠ l)) n

set_option maxHeartbeats 4000000 in
theorem c_fitsWeek {g : GG} {M : Mem} (n : Nat) (hn : M 21 2 = n) (hn6 : n ≤ 6) (w l : Int) (hw : -2147483648 ≤ w ∧ w ≤ 2147483647) (hl : -2147483648 ≤ l ∧ l ≤ 2147483647) : CP g tX3_fitsWeek 0 [rv g 21, iv w, iv l] M (bI (fitsB n (M 22) (M 23) w l = true)) := by
  refine Con.of [some (rv g 21), some (iv w), some (iv l), none] (by decide +kernel) rfl (Nat.le_of_ble_eq_true rfl) ?_
  have loop : ∀ (m k : Nat), n - k < m → k ≤ n → (∀ j : Nat, j < k → ¬ (M 22 j = w ∧ M 23 j ≠ l)) → X g tX3_fitsWeek (kk0 0) 2 [some (rv g 21), some (iv w), some (iv l), some (iv k)] [] (S0, R0, M) (QP M (bI (fitsB n (M 22) (M 23) w l = true))) := by
    intro m
    induction m with
    | zero => intro k k1 k2; omega
    | succ m ih =>
      intro k k1 k2 hno
      refine x_iload_n 3 3 dX3_fitsWeek_2 rfl rfl (by decide) rfl ?_
      refine x_aload_n 4 0 dX3_fitsWeek_3 rfl rfl (by decide) rfl ?_
      refine x_getI 7 2 2 rfl dX3_fitsWeek_4 rfl fX3_18 rfl rfl (fun g4 => ?_)
      refine x_icmp_ge 38 10 dX3_fitsWeek_7 (by decide) rfl (by omega) (fun h7 => ?_) (fun h7 => ?_)
      · refine x_iconst 39 dX3_fitsWeek_38 rfl ?_
        refine x_zret dX3_fitsWeek_39 rfl (by first | exact Or.inl rfl | exact Or.inr rfl | exact bI_or _ | omega) ⟨rfl, Nat.le_refl _⟩ (qp_i ?_ rfl)
        have hk : k = n := by omega
        subst hk
        have e : fitsB k (M 22) (M 23) w l = true := by (unfold fitsB; rw [anyN_f (fun j hj => decide_eq_false (hno j hj))]; rfl)
        rw [e]; rfl
      · refine x_aload_n 11 0 dX3_fitsWeek_10 rfl rfl (by decide) rfl ?_
        refine x_getR 14 0 22 dX3_fitsWeek_11 rfl fX3_11 rfl rfl rfl ?_
        refine x_iload_n 15 3 dX3_fitsWeek_14 rfl rfl (by decide) rfl ?_
        refine x_iaload 16 dX3_fitsWeek_15 rfl rfl (by omega) (fun g15 => ?_)
        refine x_iload_n 17 1 dX3_fitsWeek_16 rfl rfl (by decide) rfl ?_
        refine x_icmp_ne 32 20 dX3_fitsWeek_17 (by decide) rfl (by omega) (fun h17 => ?_) (fun h17 => ?_)
        · refine x_iinc 35 _ dX3_fitsWeek_32 rfl (by decide) rfl rfl rfl ?_
          refine x_goto 2 dX3_fitsWeek_35 (by decide) ?_
          refine ih (k + 1) (by omega) (by omega) (fun j hj => ?_)
          by_cases e : j = k
          · subst e; omega
          · exact hno j (by omega)
        · refine x_aload_n 21 0 dX3_fitsWeek_20 rfl rfl (by decide) rfl ?_
          refine x_getR 24 1 23 dX3_fitsWeek_21 rfl fX3_15 rfl rfl rfl ?_
          refine x_iload_n 25 3 dX3_fitsWeek_24 rfl rfl (by decide) rfl ?_
          refine x_iaload 26 dX3_fitsWeek_25 rfl rfl (by omega) (fun g25 => ?_)
          refine x_iload_n 27 2 dX3_fitsWeek_26 rfl rfl (by decide) rfl ?_
          refine x_icmp_eq 32 30 dX3_fitsWeek_27 (by decide) rfl (by omega) (fun h27 => ?_) (fun h27 => ?_)
          · refine x_iinc 35 _ dX3_fitsWeek_32 rfl (by decide) rfl rfl rfl ?_
            refine x_goto 2 dX3_fitsWeek_35 (by decide) ?_
            refine ih (k + 1) (by omega) (by omega) (fun j hj => ?_)
            by_cases e : j = k
            · subst e; omega
            · exact hno j (by omega)
          · refine x_iconst 31 dX3_fitsWeek_30 rfl ?_
            refine x_zret dX3_fitsWeek_31 rfl (by first | exact Or.inl rfl | exact Or.inr rfl | exact bI_or _ | omega) ⟨rfl, Nat.le_refl _⟩ (qp_i ?_ rfl)
            have e : fitsB n (M 22) (M 23) w l = false := by (unfold fitsB; rw [anyN_t (k := k) (by omega) (decide_eq_true ⟨by omega, by omega⟩)]; rfl)
            rw [e]; rfl
  refine x_iconst 1 dX3_fitsWeek_0 rfl ?_
  refine x_istore_n 2 3 _ dX3_fitsWeek_1 rfl rfl (by decide) rfl rfl ?_
  exact loop (n + 1) 0 (by omega) (by omega) (fun j hj => by omega)

def whoL (v : LV) (k : Nat) : Int := if wkL (goV v k) 0 < 0 then 9 else wkL (goV v k) 0
/-- all goes as it was seen -/
def fitV (n : Nat) (sw sl : Int → Int) (v : LV) : Bool := !anyN (fun k => !fitsB n sw sl k (whoL v k)) 21

set_option maxHeartbeats 4000000 in
theorem c_fit {g : GG} {M : Mem} {o : Nat} {v : LV} (ho : isLg o) (hR : Rep M o v) (hW : WF v) (hw : vw v ≤ 10000) (n : Nat) (hn : M 21 2 = n) (hn6 : n ≤ 6) : CI g tX3_fit 5 [rv g 21, rv g o] M (fun r M2 => r = bI (fitV n (M 22) (M 23) v = true) ∧ Fr o M M2) := by
  refine Con.of [some (rv g 21), some (rv g o), none, none] (by decide +kernel) rfl (Nat.le_of_ble_eq_true rfl) ?_
  have hap : ∀ a, a = 21 ∨ a = 22 ∨ a = 23 → (a < o ∨ o + 6 < a) := fun a ha => by rcases ho with rfl | rfl | rfl | rfl <;> omega
  have loop : ∀ (m : Nat) (jnk : Option Value) (k : Nat) (M2 : Mem), 21 - k < m → k ≤ 21 → Rep M2 o (goV v k) → Fr o M M2 → (∀ j : Nat, j < k → fitsB n (M 22) (M 23) j (whoL v j) = true) → X g tX3_fit (kk0 5) 2 [some (rv g 21), some (rv g o), some (iv k), jnk] [] (S0, R0, M2) (QI (fun r M3 => r = bI (fitV n (M 22) (M 23) v = true) ∧ Fr o M M3)) := by
    intro m
    induction m with
    | zero => intro jnk k M2 k1 k2; omega
    | succ m ih =>
      intro jnk k M2 k1 k2 hR2 hF hno
      have hgw := goV_w v k
      have hin := wkL_in (goV_WF hW k) 0
      have hn5 := (goV_WF hW k).1
      have hwho : whoL v k = if wkL (goV v k) 0 < 0 then 9 else wkL (goV v k) 0 := rfl
      refine x_iload_n 3 2 dX3_fit_2 rfl rfl (by decide) rfl ?_
      refine x_bipush 5 dX3_fit_3 rfl (by decide) ?_
      refine x_icmp_ge 40 8 dX3_fit_5 (by decide) rfl (by omega) (fun h5 => ?_) (fun h5 => ?_)
      · refine x_iconst 41 dX3_fit_40 rfl ?_
        refine x_zret dX3_fit_41 rfl (by first | exact Or.inl rfl | exact Or.inr rfl | exact bI_or _ | omega) ⟨rfl, Nat.le_refl _⟩ (qi_i ?_)
        refine ⟨?_, hF⟩
        have hk : k = 21 := by omega
        subst hk
        have e : fitV n (M 22) (M 23) v = true := by (unfold fitV; rw [anyN_f (fun j hj => by rw [hno j hj]; rfl)]; rfl)
        rw [e]; rfl
      · refine x_aload_n 9 1 dX3_fit_8 rfl rfl (by decide) rfl ?_
        refine x_iconst 10 dX3_fit_9 rfl ?_
        refine x_vi 13 [_] (c_runWeek ho hR2 (goV_WF hW k) (by omega) 0 (Or.inl rfl)) mX1_runWeek kX3_22 dX3_fit_10 rfl (lg_s ho) ⟨by decide, rfl⟩ rfl rfl (Nat.le_of_ble_eq_true rfl) (by decide) (fun r M3 q3 => ?_)
        obtain ⟨rfl, hR3, hF3⟩ := q3
        have s21 : M3 21 = M 21 := (hF.tr hF3) _ (hap 21 (by omega))
        have s22 : M3 22 = M 22 := (hF.tr hF3) _ (hap 22 (by omega))
        have s23 : M3 23 = M 23 := (hF.tr hF3) _ (hap 23 (by omega))
        refine x_istore_n 14 3 _ dX3_fit_13 rfl rfl (by decide) rfl rfl ?_
        refine x_aload_n 15 0 dX3_fit_14 rfl rfl (by decide) rfl ?_
        refine x_iload_n 16 2 dX3_fit_15 rfl rfl (by decide) rfl ?_
        refine x_iload_n 17 3 dX3_fit_16 rfl rfl (by decide) rfl ?_
        refine x_if_ge 25 20 dX3_fit_17 (by decide) rfl (by omega) (fun h17 => ?_) (fun h17 => ?_)
        · refine x_iload_n 26 3 dX3_fit_25 rfl rfl (by decide) rfl ?_
          refine x_vp 29 [_, _] (by have z := c_fitsWeek (g := g) (M := M3) n (by rw [s21]; exact hn) hn6 k (whoL v k) (by omega) (by rw [hwho]; split <;> omega); rw [s22, s23, hwho] at z; first | (rw [if_pos (by omega)] at z; exact z) | (rw [if_neg (by omega)] at z; exact z)) mX3_fitsWeek kX3_28 dX3_fit_26 rfl rfl ⟨by decide, rfl⟩ rfl rfl (Nat.le_of_ble_eq_true rfl) (by decide) ?_
          refine x_ifne_b 34 32 dX3_fit_29 (by decide) rfl (fun h29 => ?_) (fun h29 => ?_)
          · refine x_iinc 37 _ dX3_fit_34 rfl (by decide) rfl rfl rfl ?_
            refine x_goto 2 dX3_fit_37 (by decide) ?_
            refine ih _ (k + 1) _ (by omega) (by omega) hR3 (hF.tr hF3) (fun j hj => ?_)
            by_cases e : j = k
            · subst e; rw [hwho]; first | (rw [if_pos (by omega)]; assumption) | (rw [if_neg (by omega)]; assumption)
            · exact hno j (by omega)
          · refine x_iconst 33 dX3_fit_32 rfl ?_
            refine x_zret dX3_fit_33 rfl (by first | exact Or.inl rfl | exact Or.inr rfl | exact bI_or _ | omega) ⟨rfl, Nat.le_refl _⟩ (qi_i ?_)
            refine ⟨?_, hF.tr hF3⟩
            have e0 : fitsB n (M 22) (M 23) k (whoL v k) = false := by (rw [hwho]; first | (rw [if_pos (by omega)]; exact Bool.eq_false_iff.mpr (by assumption)) | (rw [if_neg (by omega)]; exact Bool.eq_false_iff.mpr (by assumption)))
            have e : fitV n (M 22) (M 23) v = false := by (unfold fitV; rw [anyN_t (k := k) (by omega) (by rw [e0]; rfl)]; rfl)
            rw [e]; rfl
        · refine x_bipush 22 dX3_fit_20 rfl (by decide) ?_
          refine x_goto 26 dX3_fit_22 (by decide) ?_
          refine x_vp 29 [_, _] (by have z := c_fitsWeek (g := g) (M := M3) n (by rw [s21]; exact hn) hn6 k (whoL v k) (by omega) (by rw [hwho]; split <;> omega); rw [s22, s23, hwho] at z; first | (rw [if_pos (by omega)] at z; exact z) | (rw [if_neg (by omega)] at z; exact z)) mX3_fitsWeek kX3_28 dX3_fit_26 rfl rfl ⟨by decide, rfl⟩ rfl rfl (Nat.le_of_ble_eq_true rfl) (by decide) ?_
          refine x_ifne_b 34 32 dX3_fit_29 (by decide) rfl (fun h29 => ?_) (fun h29 => ?_)
          · refine x_iinc 37 _ dX3_fit_34 rfl (by decide) rfl rfl rfl ?_
            refine x_goto 2 dX3_fit_37 (by decide) ?_
            refine ih _ (k + 1) _ (by omega) (by omega) hR3 (hF.tr hF3) (fun j hj => ?_)
            by_cases e : j = k
            · subst e; rw [hwho]; first | (rw [if_pos (by omega)]; assumption) | (rw [if_neg (by omega)]; assumption)
            · exact hno j (by omega)
          · refine x_iconst 33 dX3_fit_32 rfl ?_
            refine x_zret dX3_fit_33 rfl (by first | exact Or.inl rfl | exact Or.inr rfl | exact bI_or _ | omega) ⟨rfl, Nat.le_refl _⟩ (qi_i ?_)
            refine ⟨?_, hF.tr hF3⟩
            have e0 : fitsB n (M 22) (M 23) k (whoL v k) = false := by (rw [hwho]; first | (rw [if_pos (by omega)]; exact Bool.eq_false_iff.mpr (by assumption)) | (rw [if_neg (by omega)]; exact Bool.eq_false_iff.mpr (by assumption)))
            have e : fitV n (M 22) (M 23) v = false := by (unfold fitV; rw [anyN_t (k := k) (by omega) (by rw [e0]; rfl)]; rfl)
            rw [e]; rfl
  refine x_iconst 1 dX3_fit_0 rfl ?_
  refine x_istore_n 2 2 _ dX3_fit_1 rfl rfl (by decide) rfl rfl ?_
  exact loop 22 _ 0 M (by omega) (by omega) hR (Fr.rf o M) (fun j hj => by omega)

theorem iByte {c : Int} (h : 0 ≤ c ∧ c ≤ 127) : (Int32.ofInt c).toInt8.toInt32 = Int32.ofInt c := by
  obtain ⟨k, rfl⟩ := Int.eq_ofNat_of_zero_le h.1
  rw [iN]
  have : ∀ n, n < 128 → (nI n).toInt8.toInt32 = nI n := by decide +kernel
  exact this k (by omega)
theorem iByteN {c : Int} (h : 0 ≤ c ∧ c ≤ 127) : vp_nar .byte (Int32.ofInt c) = Int32.ofInt c := by
  rw [vp_nar_byte, iByte h]

set_option maxHeartbeats 4000000 in
theorem c_append {g : GG} {M : Mem} (h0 : 0 ≤ M 2 1) (c : Int) (hc : 0 ≤ c ∧ c ≤ 127) : CI g tX4_append 0 [rv g 2, iv c] M (fun r M2 => r = bI (M 2 1 < 160) ∧ M2 = if M 2 1 < 160 then up2 (up2 M 3 (M 2 1) c) 2 1 (M 2 1 + 1) else M) := by
  refine Con.of [some (rv g 2), some (iv c)] (by decide +kernel) rfl (Nat.le_of_ble_eq_true rfl) ?_
  refine x_aload_n 1 0 dX4_append_0 rfl rfl (by decide) rfl ?_
  refine x_getI 4 1 1 rfl dX4_append_1 rfl fX4_13 rfl rfl (fun g1 => ?_)
  refine x_aload_n 5 0 dX4_append_4 rfl rfl (by decide) rfl ?_
  refine x_getR 8 0 3 dX4_append_5 rfl fX4_7 rfl rfl rfl ?_
  refine x_alen 9 (by decide) dX4_append_8 rfl rfl 160 rfl ?_
  refine x_icmp_lt 14 12 dX4_append_9 (by decide) rfl (by omega) (fun h9 => ?_) (fun h9 => ?_)
  · refine x_aload_n 15 0 dX4_append_14 rfl rfl (by decide) rfl ?_
    refine x_getR 18 0 3 dX4_append_15 rfl fX4_7 rfl rfl rfl ?_
    refine x_aload_n 19 0 dX4_append_18 rfl rfl (by decide) rfl ?_
    refine x_getI 22 1 1 rfl dX4_append_19 rfl fX4_13 rfl rfl (fun g19 => ?_)
    refine x_iload_n 23 1 dX4_append_22 rfl rfl (by decide) rfl ?_
    refine x_i2b 24 c dX4_append_23 rfl (by rw [iByte (by omega)]) ?_
    refine x_bastore 25 dX4_append_24 rfl rfl (by omega) (by omega) (iByteN (by omega)) ?_
    refine x_aload_n 26 0 dX4_append_25 rfl rfl (by decide) rfl ?_
    refine x_dup 27 dX4_append_26 rfl rfl ?_
    refine x_getI 30 1 1 rfl dX4_append_27 rfl fX4_13 rfl rfl (fun g27 => ?_)
    refine x_iconst 31 dX4_append_30 rfl ?_
    refine x_iadd 32 dX4_append_31 rfl ?_
    refine x_putI 35 1 1 rfl dX4_append_32 rfl fX4_13 rfl rfl rfl (by rw [up2_o _ _ _ (by omega)]; omega) ?_
    refine x_iconst 36 dX4_append_35 rfl ?_
    refine x_zret dX4_append_36 rfl (by first | exact Or.inl rfl | exact Or.inr rfl | exact bI_or _ | omega) ⟨rfl, Nat.le_refl _⟩ (qi_i ?_)
    refine ⟨(bI_t (by omega)).symm, ?_⟩
    rw [if_pos (by omega), up2_o M _ _ (show 2 ≠ 3 by omega)]
  · refine x_iconst 13 dX4_append_12 rfl ?_
    refine x_zret dX4_append_13 rfl (by first | exact Or.inl rfl | exact Or.inr rfl | exact bI_or _ | omega) ⟨rfl, Nat.le_refl _⟩ (qi_i ?_)
    refine ⟨(bI_f (by omega)).symm, ?_⟩
    rw [if_neg (by omega)]

set_option maxHeartbeats 4000000 in
theorem c_byteAt {g : GG} {M : Mem} (h0 : M 2 1 ≤ 160) (p : Int) (hp : -2147483648 ≤ p ∧ p ≤ 2147483647) : CP g tX4_byteAt 0 [rv g 2, iv p] M (if 0 ≤ p ∧ p < M 2 1 then M 3 p else 0) := by
  refine Con.of [some (rv g 2), some (iv p)] (by decide +kernel) rfl (Nat.le_of_ble_eq_true rfl) ?_
  refine x_iload_n 1 1 dX4_byteAt_0 rfl rfl (by decide) rfl ?_
  refine x_if_lt 21 4 dX4_byteAt_1 (by decide) rfl (by omega) (fun h1 => ?_) (fun h1 => ?_)
  · refine x_iconst 22 dX4_byteAt_21 rfl ?_
    refine x_iret dX4_byteAt_22 rfl ⟨rfl, Nat.le_refl _⟩ (qp_i ?_ rfl)
    first | rw [if_pos (by omega)] | rw [if_neg (by omega)]
  · refine x_iload_n 5 1 dX4_byteAt_4 rfl rfl (by decide) rfl ?_
    refine x_aload_n 6 0 dX4_byteAt_5 rfl rfl (by decide) rfl ?_
    refine x_getI 9 1 1 rfl dX4_byteAt_6 rfl fX4_13 rfl rfl (fun g6 => ?_)
    refine x_icmp_ge 21 12 dX4_byteAt_9 (by decide) rfl (by omega) (fun h9 => ?_) (fun h9 => ?_)
    · refine x_iconst 22 dX4_byteAt_21 rfl ?_
      refine x_iret dX4_byteAt_22 rfl ⟨rfl, Nat.le_refl _⟩ (qp_i ?_ rfl)
      first | rw [if_pos (by omega)] | rw [if_neg (by omega)]
    · refine x_aload_n 13 0 dX4_byteAt_12 rfl rfl (by decide) rfl ?_
      refine x_getR 16 0 3 dX4_byteAt_13 rfl fX4_7 rfl rfl rfl ?_
      refine x_iload_n 17 1 dX4_byteAt_16 rfl rfl (by decide) rfl ?_
      refine x_baload 18 dX4_byteAt_17 rfl rfl (by omega) (fun g17 => ?_)
      refine x_goto 22 dX4_byteAt_18 (by decide) ?_
      refine x_iret dX4_byteAt_22 rfl ⟨rfl, Nat.le_refl _⟩ (qp_i ?_ rfl)
      first | rw [if_pos (by omega)] | rw [if_neg (by omega)]
