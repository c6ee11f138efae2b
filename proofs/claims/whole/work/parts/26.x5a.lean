theorem tk_end {b : Int → Int} {n p : Int} (h : n ≤ tkS b n p) : tkK b n p = 0 ∧ tkE b n p = tkS b n p ∧ tkBb b n p = false := by
  have k : tkK b n p = 0 := by unfold tkK; rw [if_pos h]
  refine ⟨k, by unfold tkE; rw [if_pos h], ?_⟩
  unfold tkBb; rw [k]; exact decide_eq_false (by omega)
theorem tk_name {b : Int → Int} {n p : Int} (h : tkS b n p < n) (hl : isLt (b (tkS b n p)) = true) : tkK b n p = 1 ∧ tkE b n p = scan isLt b n (tkS b n p) ∧ tkBb b n p = false := by
  have k : tkK b n p = 1 := by unfold tkK; rw [if_neg (by omega), if_pos hl]
  refine ⟨k, by unfold tkE; rw [if_neg (by omega), if_pos hl], ?_⟩
  unfold tkBb; rw [k]; exact decide_eq_false (by omega)
theorem tk_num {b : Int → Int} {n p : Int} (h : tkS b n p < n) (hl : ¬ isLt (b (tkS b n p)) = true) (hf : isFg (b (tkS b n p)) = true) : tkK b n p = 2 ∧ tkE b n p = scan isFg b n (tkS b n p) ∧ tkV b n p = numP b (tkS b n p) (scan isFg b n (tkS b n p)) ∧ tkBb b n p = decide (2 < scan isFg b n (tkS b n p) - tkS b n p) := by
  have k : tkK b n p = 2 := by unfold tkK; rw [if_neg (by omega), if_neg hl, if_pos hf]
  have e : tkE b n p = scan isFg b n (tkS b n p) := by unfold tkE; rw [if_neg (by omega), if_neg hl, if_pos hf]
  refine ⟨k, e, by unfold tkV; rw [if_pos k, e], ?_⟩
  unfold tkBb; rw [k, e]; exact decide_eq_decide.mpr (by omega)
theorem tk_oth {b : Int → Int} {n p : Int} (h : tkS b n p < n) (hl : ¬ isLt (b (tkS b n p)) = true) (hf : ¬ isFg (b (tkS b n p)) = true) : tkK b n p = 3 ∧ tkE b n p = tkS b n p + 1 ∧ tkBb b n p = decide (b (tkS b n p) ≠ 59) := by
  have k : tkK b n p = 3 := by unfold tkK; rw [if_neg (by omega), if_neg hl, if_neg hf]
  refine ⟨k, by unfold tkE; rw [if_neg (by omega), if_neg hl, if_neg hf], ?_⟩
  unfold tkBb; rw [k]; exact decide_eq_decide.mpr (by omega)
/-- the tape holds the bytes b, n of them -/
def TP (M : Mem) (n : Int) (b : Int → Int) : Prop := M 2 1 = n ∧ (0 ≤ n ∧ n ≤ 160) ∧ ∀ i, 0 ≤ i → i < n → M 3 i = b i ∧ 0 ≤ b i ∧ b i ≤ 127
theorem TP.keep {M M2 : Mem} {n : Int} {b : Int → Int} (h : TP M n b) (e : ∀ a, a ≠ 1 → M2 a = M a) : TP M2 n b := by
  unfold TP; rw [e 2 (by omega), e 3 (by omega)]; exact h
theorem c_bAt {g : GG} {M : Mem} {n : Int} {b : Int → Int} (hT : TP M n b) (p : Int) (hp : 0 ≤ p ∧ p < n) : CP g tX4_byteAt 0 [rv g 2, iv p] M (b p) := by
  have h := c_byteAt (g := g) (M := M) (by rw [hT.1]; exact hT.2.1.2) p (by have := hT.2.1; omega)
  rw [if_pos (by rw [hT.1]; exact hp), (hT.2.2 p hp.1 hp.2).1] at h
  exact h
def RT (b : Int → Int) (n p : Int) (M M2 : Mem) : Prop := (∀ a, a ≠ 1 → M2 a = M a) ∧ M2 1 3 = tkS b n p ∧ (tkBb b n p = true → M2 1 5 = 1 ∧ M2 1 6 = tkS b n p) ∧ (tkBb b n p = false → M2 1 1 = tkE b n p ∧ M2 1 2 = tkK b n p ∧ (tkK b n p = 2 → M2 1 4 = tkV b n p) ∧ M2 1 5 = M 1 5 ∧ M2 1 6 = M 1 6)

set_option maxHeartbeats 4000000 in
theorem c_isLetter {g : GG} {M : Mem} (c : Int) (hc : -2147483648 ≤ c ∧ c ≤ 2147483647) : CP g tX5_isLetter 0 [iv c] M (bI (isLt c = true)) := by
  refine Con.of [some (iv c)] (by decide +kernel) rfl (Nat.le_of_ble_eq_true rfl) ?_
  refine x_iload_n 1 0 dX5_isLetter_0 rfl rfl (by decide) rfl ?_
  refine x_bipush 3 dX5_isLetter_1 rfl (by decide) ?_
  refine x_icmp_lt 16 6 dX5_isLetter_3 (by decide) rfl (by omega) (fun h3 => ?_) (fun h3 => ?_)
  · refine x_iconst 17 dX5_isLetter_16 rfl ?_
    refine x_zret dX5_isLetter_17 rfl (by first | exact Or.inl rfl | exact Or.inr rfl | exact bI_or _ | omega) ⟨rfl, Nat.le_refl _⟩ (qp_i ?_ rfl)
    first | exact (bI_t (decide_eq_true (by omega))).symm | exact (bI_f (by unfold isLt; rw [decide_eq_true_eq]; omega)).symm
  · refine x_iload_n 7 0 dX5_isLetter_6 rfl rfl (by decide) rfl ?_
    refine x_bipush 9 dX5_isLetter_7 rfl (by decide) ?_
    refine x_icmp_gt 16 12 dX5_isLetter_9 (by decide) rfl (by omega) (fun h9 => ?_) (fun h9 => ?_)
    · refine x_iconst 17 dX5_isLetter_16 rfl ?_
      refine x_zret dX5_isLetter_17 rfl (by first | exact Or.inl rfl | exact Or.inr rfl | exact bI_or _ | omega) ⟨rfl, Nat.le_refl _⟩ (qp_i ?_ rfl)
      first | exact (bI_t (decide_eq_true (by omega))).symm | exact (bI_f (by unfold isLt; rw [decide_eq_true_eq]; omega)).symm
    · refine x_iconst 13 dX5_isLetter_12 rfl ?_
      refine x_goto 17 dX5_isLetter_13 (by decide) ?_
      refine x_zret dX5_isLetter_17 rfl (by first | exact Or.inl rfl | exact Or.inr rfl | exact bI_or _ | omega) ⟨rfl, Nat.le_refl _⟩ (qp_i ?_ rfl)
      first | exact (bI_t (decide_eq_true (by omega))).symm | exact (bI_f (by unfold isLt; rw [decide_eq_true_eq]; omega)).symm

set_option maxHeartbeats 4000000 in
theorem c_isFigure {g : GG} {M : Mem} (c : Int) (hc : -2147483648 ≤ c ∧ c ≤ 2147483647) : CP g tX5_isFigure 0 [iv c] M (bI (isFg c = true)) := by
  refine Con.of [some (iv c)] (by decide +kernel) rfl (Nat.le_of_ble_eq_true rfl) ?_
  refine x_iload_n 1 0 dX5_isFigure_0 rfl rfl (by decide) rfl ?_
  refine x_bipush 3 dX5_isFigure_1 rfl (by decide) ?_
  refine x_icmp_lt 16 6 dX5_isFigure_3 (by decide) rfl (by omega) (fun h3 => ?_) (fun h3 => ?_)
  · refine x_iconst 17 dX5_isFigure_16 rfl ?_
    refine x_zret dX5_isFigure_17 rfl (by first | exact Or.inl rfl | exact Or.inr rfl | exact bI_or _ | omega) ⟨rfl, Nat.le_refl _⟩ (qp_i ?_ rfl)
    first | exact (bI_t (decide_eq_true (by omega))).symm | exact (bI_f (by unfold isFg; rw [decide_eq_true_eq]; omega)).symm
  · refine x_iload_n 7 0 dX5_isFigure_6 rfl rfl (by decide) rfl ?_
    refine x_bipush 9 dX5_isFigure_7 rfl (by decide) ?_
    refine x_icmp_gt 16 12 dX5_isFigure_9 (by decide) rfl (by omega) (fun h9 => ?_) (fun h9 => ?_)
    · refine x_iconst 17 dX5_isFigure_16 rfl ?_
      refine x_zret dX5_isFigure_17 rfl (by first | exact Or.inl rfl | exact Or.inr rfl | exact bI_or _ | omega) ⟨rfl, Nat.le_refl _⟩ (qp_i ?_ rfl)
      first | exact (bI_t (decide_eq_true (by omega))).symm | exact (bI_f (by unfold isFg; rw [decide_eq_true_eq]; omega)).symm
    · refine x_iconst 13 dX5_isFigure_12 rfl ?_
      refine x_goto 17 dX5_isFigure_13 (by decide) ?_
      refine x_zret dX5_isFigure_17 rfl (by first | exact Or.inl rfl | exact Or.inr rfl | exact bI_or _ | omega) ⟨rfl, Nat.le_refl _⟩ (qp_i ?_ rfl)
      first | exact (bI_t (decide_eq_true (by omega))).symm | exact (bI_f (by unfold isFg; rw [decide_eq_true_eq]; omega)).symm

set_option maxHeartbeats 4000000 in
theorem c_refuse {g : GG} {M : Mem} (w : Int) (hw : -2147483648 ≤ w ∧ w ≤ 2147483647) : CI g tX5_refuse 0 [rv g 1, iv w] M (fun r M2 => r = 0 ∧ M2 = up2 (up2 M 1 5 w) 1 6 (M 1 3)) := by
  refine Con.of [some (rv g 1), some (iv w)] (by decide +kernel) rfl (Nat.le_of_ble_eq_true rfl) ?_
  refine x_aload_n 1 0 dX5_refuse_0 rfl rfl (by decide) rfl ?_
  refine x_iload_n 2 1 dX5_refuse_1 rfl rfl (by decide) rfl ?_
  refine x_putI 5 5 5 rfl dX5_refuse_2 rfl fX5_27 rfl rfl rfl (by omega) ?_
  refine x_aload_n 6 0 dX5_refuse_5 rfl rfl (by decide) rfl ?_
  refine x_aload_n 7 0 dX5_refuse_6 rfl rfl (by decide) rfl ?_
  refine x_getI 10 3 3 rfl dX5_refuse_7 rfl fX5_89 rfl rfl (fun g7 => ?_)
  refine x_putI 13 6 6 rfl dX5_refuse_10 rfl fX5_30 rfl rfl rfl (by omega) ?_
  refine x_iconst 14 dX5_refuse_13 rfl ?_
  refine x_zret dX5_refuse_14 rfl (by first | exact Or.inl rfl | exact Or.inr rfl | exact bI_or _ | omega) ⟨rfl, Nat.le_refl _⟩ (qi_i ?_)
  exact ⟨rfl, by rw [up2_k _ _ _ (show (3 : Int) ≠ 5 by omega)]⟩

set_option maxHeartbeats 4000000 in
theorem c_takeName {g : GG} {M : Mem} {n : Int} {b : Int → Int} (hT : TP M n b) (p : Int) (hp : M 1 1 = p) (hpn : 0 ≤ p ∧ p ≤ n) : CI g tX5_takeName 1 [rv g 1] M (fun r M2 => r = 1 ∧ (∀ a, a ≠ 1 → M2 a = M a) ∧ M2 1 1 = scan isLt b n p ∧ M2 1 2 = 1 ∧ M2 1 3 = M 1 3 ∧ M2 1 5 = M 1 5 ∧ M2 1 6 = M 1 6) := by
  refine Con.of [some (rv g 1)] (by decide +kernel) rfl (Nat.le_of_ble_eq_true rfl) ?_
  have hn := hT.2.1
  have loop : ∀ (m : Nat) (q : Int) (M2 : Mem), n - q < m → 0 ≤ q → q ≤ n → M2 1 1 = q → scan isLt b n q = scan isLt b n p → ((∀ a, a ≠ 1 → M2 a = M a) ∧ M2 1 2 = 1 ∧ M2 1 3 = M 1 3 ∧ M2 1 5 = M 1 5 ∧ M2 1 6 = M 1 6) → X g tX5_takeName (kk0 1) 5 [some (rv g 1)] [] (S0, R0, M2) (QI (fun r M3 => r = 1 ∧ (∀ a, a ≠ 1 → M3 a = M a) ∧ M3 1 1 = scan isLt b n p ∧ M3 1 2 = 1 ∧ M3 1 3 = M 1 3 ∧ M3 1 5 = M 1 5 ∧ M3 1 6 = M 1 6)) := by
    intro m
    induction m with
    | zero => intro q M2 k1 k2 k3; omega
    | succ m ih =>
      intro q M2 k1 k2 k3 e1 hs ⟨i0, i2, i3, i5, i6⟩
      have hT2 := hT.keep i0
      have eL : M2 2 1 = n := hT2.1
      refine x_aload_n 6 0 dX5_takeName_5 rfl rfl (by decide) rfl ?_
      refine x_getI 9 1 1 rfl dX5_takeName_6 rfl fX5_23 rfl rfl (fun g6 => ?_)
      refine x_aload_n 10 0 dX5_takeName_9 rfl rfl (by decide) rfl ?_
      refine x_getR 13 0 2 dX5_takeName_10 rfl fX5_12 rfl rfl rfl ?_
      refine x_getI 16 1 1 rfl dX5_takeName_13 rfl fX5_82 rfl rfl (fun g13 => ?_)
      refine x_icmp_ge 49 19 dX5_takeName_16 (by decide) rfl (by omega) (fun h16 => ?_) (fun h16 => ?_)
      · refine x_iconst 50 dX5_takeName_49 rfl ?_
        refine x_zret dX5_takeName_50 rfl (by first | exact Or.inl rfl | exact Or.inr rfl | exact bI_or _ | omega) ⟨rfl, Nat.le_refl _⟩ (qi_i ?_)
        refine ⟨rfl, i0, ?_, i2, i3, i5, i6⟩
        rw [e1, ← hs]
        first | exact (scan_no (fun z => by omega)).symm | exact (scan_no (fun z => absurd z.2 (by assumption))).symm
      · refine x_aload_n 20 0 dX5_takeName_19 rfl rfl (by decide) rfl ?_
        refine x_getR 23 0 2 dX5_takeName_20 rfl fX5_12 rfl rfl rfl ?_
        refine x_aload_n 24 0 dX5_takeName_23 rfl rfl (by decide) rfl ?_
        refine x_getI 27 1 1 rfl dX5_takeName_24 rfl fX5_23 rfl rfl (fun g24 => ?_)
        rw [e1]
        refine x_vp 30 [_] (c_bAt hT2 _ (by omega)) mX4_byteAt kX5_85 dX5_takeName_27 rfl rfl ⟨by decide, rfl⟩ rfl rfl (Nat.le_of_ble_eq_true rfl) (by decide) ?_
        refine x_sp 33 [_] (c_isLetter _ (by have := hT.2.2 q k2 (by omega); omega)) mX5_isLetter kX5_92 dX5_takeName_30 rfl rfl rfl (Nat.le_of_ble_eq_true rfl) (by decide) ?_
        refine x_ifeq_b 49 36 dX5_takeName_33 (by decide) rfl (fun h33 => ?_) (fun h33 => ?_)
        · refine x_iconst 50 dX5_takeName_49 rfl ?_
          refine x_zret dX5_takeName_50 rfl (by first | exact Or.inl rfl | exact Or.inr rfl | exact bI_or _ | omega) ⟨rfl, Nat.le_refl _⟩ (qi_i ?_)
          refine ⟨rfl, i0, ?_, i2, i3, i5, i6⟩
          rw [e1, ← hs]
          first | exact (scan_no (fun z => by omega)).symm | exact (scan_no (fun z => absurd z.2 (by assumption))).symm
        · refine x_aload_n 37 0 dX5_takeName_36 rfl rfl (by decide) rfl ?_
          refine x_dup 38 dX5_takeName_37 rfl rfl ?_
          refine x_getI 41 1 1 rfl dX5_takeName_38 rfl fX5_23 rfl rfl (fun g38 => ?_)
          refine x_iconst 42 dX5_takeName_41 rfl ?_
          refine x_iadd 43 dX5_takeName_42 rfl ?_
          refine x_putI 46 1 1 rfl dX5_takeName_43 rfl fX5_23 rfl rfl rfl (by omega) ?_
          refine x_goto 5 dX5_takeName_46 (by decide) ?_
          refine ih (q + 1) _ (by omega) (by omega) (by omega) (by rw [up2_s, e1]) (by rw [← scan_go (by omega) (by assumption)]; exact hs) ⟨fun a ha => ?_, ?_, ?_, ?_, ?_⟩
          · rw [up2_o _ _ _ ha]; exact i0 a ha
          · rw [up2_k _ _ _ (by omega)]; exact i2
          · rw [up2_k _ _ _ (by omega)]; exact i3
          · rw [up2_k _ _ _ (by omega)]; exact i5
          · rw [up2_k _ _ _ (by omega)]; exact i6
  refine x_aload_n 1 0 dX5_takeName_0 rfl rfl (by decide) rfl ?_
  refine x_iconst 2 dX5_takeName_1 rfl ?_
  refine x_putI 5 2 2 rfl dX5_takeName_2 rfl fX5_37 rfl rfl rfl (by omega) ?_
  refine loop ((n - p).toNat + 1) p _ (by omega) (by omega) (by omega) (by rw [up2_k _ _ _ (by omega)]; exact hp) rfl ⟨fun a ha => up2_o _ _ _ ha, up2_s _ _ _ _, up2_k _ _ _ (by omega), up2_k _ _ _ (by omega), up2_k _ _ _ (by omega)⟩

set_option maxHeartbeats 4000000 in
theorem c_takeNumber {g : GG} {M : Mem} {n : Int} {b : Int → Int} (hT : TP M n b) (p : Int) (hp : M 1 1 = p) (hs3 : M 1 3 = p) (hpn : 0 ≤ p ∧ p ≤ n) : CI g tX5_takeNumber 1 [rv g 1] M (fun r M3 => (∀ a, a ≠ 1 → M3 a = M a) ∧ M3 1 3 = M 1 3 ∧ r = bI (¬ 2 < scan isFg b n p - p) ∧ (2 < scan isFg b n p - p → M3 1 5 = 1 ∧ M3 1 6 = p) ∧ (¬ 2 < scan isFg b n p - p → M3 1 1 = scan isFg b n p ∧ M3 1 2 = 2 ∧ M3 1 4 = numP b p (scan isFg b n p) ∧ M3 1 5 = M 1 5 ∧ M3 1 6 = M 1 6)) := by
  refine Con.of [some (rv g 1)] (by decide +kernel) rfl (Nat.le_of_ble_eq_true rfl) ?_
  have hn := hT.2.1
  have loop : ∀ (m : Nat) (q : Int) (M2 : Mem), n - q < m → p ≤ q → q ≤ n → M2 1 1 = q → scan isFg b n q = scan isFg b n p → (q ≤ p + 2 → M2 1 4 = numP b p q) → ((∀ a, a ≠ 1 → M2 a = M a) ∧ M2 1 2 = 2 ∧ M2 1 3 = M 1 3 ∧ M2 1 5 = M 1 5 ∧ M2 1 6 = M 1 6) → (∀ z, p ≤ z → z < q → isFg (b z) = true) → X g tX5_takeNumber (kk0 1) 10 [some (rv g 1)] [] (S0, R0, M2) (QI (fun r M3 => (∀ a, a ≠ 1 → M3 a = M a) ∧ M3 1 3 = M 1 3 ∧ r = bI (¬ 2 < scan isFg b n p - p) ∧ (2 < scan isFg b n p - p → M3 1 5 = 1 ∧ M3 1 6 = p) ∧ (¬ 2 < scan isFg b n p - p → M3 1 1 = scan isFg b n p ∧ M3 1 2 = 2 ∧ M3 1 4 = numP b p (scan isFg b n p) ∧ M3 1 5 = M 1 5 ∧ M3 1 6 = M 1 6))) := by
    intro m
    induction m with
    | zero => intro q M2 k1 k2 k3; omega
    | succ m ih =>
      intro q M2 k1 k2 k3 e1 hs hv ⟨i0, i2, i3, i5, i6⟩ hz
      have hT2 := hT.keep i0
      have eL : M2 2 1 = n := hT2.1
      refine x_aload_n 11 0 dX5_takeNumber_10 rfl rfl (by decide) rfl ?_
      refine x_getI 14 1 1 rfl dX5_takeNumber_11 rfl fX5_23 rfl rfl (fun g11 => ?_)
      refine x_aload_n 15 0 dX5_takeNumber_14 rfl rfl (by decide) rfl ?_
      refine x_getR 18 0 2 dX5_takeNumber_15 rfl fX5_12 rfl rfl rfl ?_
      refine x_getI 21 1 1 rfl dX5_takeNumber_18 rfl fX5_82 rfl rfl (fun g18 => ?_)
      refine x_icmp_ge 80 24 dX5_takeNumber_21 (by decide) rfl (by omega) (fun h21 => ?_) (fun h21 => ?_)
      · have hend : scan isFg b n p = q := by (rw [← hs]; first | exact scan_no (fun z => by omega) | exact scan_no (fun z => absurd z.2 (by assumption)))
        refine x_aload_n 81 0 dX5_takeNumber_80 rfl rfl (by decide) rfl ?_
        refine x_getI 84 1 1 rfl dX5_takeNumber_81 rfl fX5_23 rfl rfl (fun g81 => ?_)
        refine x_aload_n 85 0 dX5_takeNumber_84 rfl rfl (by decide) rfl ?_
        refine x_getI 88 3 3 rfl dX5_takeNumber_85 rfl fX5_89 rfl rfl (fun g85 => ?_)
        refine x_isub 89 dX5_takeNumber_88 rfl ?_
        refine x_iconst 90 dX5_takeNumber_89 rfl ?_
        refine x_icmp_le 101 93 dX5_takeNumber_90 (by decide) rfl (by omega) (fun h90 => ?_) (fun h90 => ?_)
        · refine x_iconst 102 dX5_takeNumber_101 rfl ?_
          refine x_goto 106 dX5_takeNumber_102 (by decide) ?_
          refine x_zret dX5_takeNumber_106 rfl (by first | exact Or.inl rfl | exact Or.inr rfl | exact bI_or _ | omega) ⟨rfl, Nat.le_refl _⟩ (qi_i ?_)
          rw [hend]
          first
            | (refine ⟨i0, i3, (bI_t (by omega)).symm, fun z => by omega, fun z => ⟨e1, i2, hv (by omega), i5, i6⟩⟩)
            | (refine ⟨fun a ha => by rw [up2_o _ _ _ ha, up2_o _ _ _ ha]; exact i0 a ha, ?_, (bI_f (by omega)).symm, fun z => ⟨?_, ?_⟩, fun z => absurd z (by omega)⟩
               · rw [up2_k _ _ _ (by omega), up2_k _ _ _ (by omega)]; exact i3
               · rw [up2_k _ _ _ (by omega), up2_s]
               · rw [up2_s]; omega)
        · refine x_aload_n 94 0 dX5_takeNumber_93 rfl rfl (by decide) rfl ?_
          refine x_iconst 95 dX5_takeNumber_94 rfl ?_
          refine x_vi 98 [_] (c_refuse _ (by omega)) mX5_refuse kX5_43 dX5_takeNumber_95 rfl rfl ⟨by decide, rfl⟩ rfl rfl (Nat.le_of_ble_eq_true rfl) (by decide) (fun r9 M9 q9 => ?_)
          obtain ⟨rfl, rfl⟩ := q9
          refine x_if_eq 105 101 dX5_takeNumber_98 (by decide) rfl (by omega) (fun h98 => ?_) (fun h98 => ?_)
          · refine x_iconst 106 dX5_takeNumber_105 rfl ?_
            refine x_zret dX5_takeNumber_106 rfl (by first | exact Or.inl rfl | exact Or.inr rfl | exact bI_or _ | omega) ⟨rfl, Nat.le_refl _⟩ (qi_i ?_)
            rw [hend]
            first
              | (refine ⟨i0, i3, (bI_t (by omega)).symm, fun z => by omega, fun z => ⟨e1, i2, hv (by omega), i5, i6⟩⟩)
              | (refine ⟨fun a ha => by rw [up2_o _ _ _ ha, up2_o _ _ _ ha]; exact i0 a ha, ?_, (bI_f (by omega)).symm, fun z => ⟨?_, ?_⟩, fun z => absurd z (by omega)⟩
                 · rw [up2_k _ _ _ (by omega), up2_k _ _ _ (by omega)]; exact i3
                 · rw [up2_k _ _ _ (by omega), up2_s]
                 · rw [up2_s]; omega)
          · exfalso; omega
      · refine x_aload_n 25 0 dX5_takeNumber_24 rfl rfl (by decide) rfl ?_
        refine x_getR 28 0 2 dX5_takeNumber_25 rfl fX5_12 rfl rfl rfl ?_
        refine x_aload_n 29 0 dX5_takeNumber_28 rfl rfl (by decide) rfl ?_
        refine x_getI 32 1 1 rfl dX5_takeNumber_29 rfl fX5_23 rfl rfl (fun g29 => ?_)
        rw [e1]
        refine x_vp 35 [_] (c_bAt hT2 _ (by omega)) mX4_byteAt kX5_85 dX5_takeNumber_32 rfl rfl ⟨by decide, rfl⟩ rfl rfl (Nat.le_of_ble_eq_true rfl) (by decide) ?_
        refine x_sp 38 [_] (c_isFigure _ (by have := hT.2.2 q (by omega) (by omega); omega)) mX5_isFigure kX5_98 dX5_takeNumber_35 rfl rfl rfl (Nat.le_of_ble_eq_true rfl) (by decide) ?_
        refine x_ifeq_b 80 41 dX5_takeNumber_38 (by decide) rfl (fun h38 => ?_) (fun h38 => ?_)
        · have hend : scan isFg b n p = q := by (rw [← hs]; first | exact scan_no (fun z => by omega) | exact scan_no (fun z => absurd z.2 (by assumption)))
          refine x_aload_n 81 0 dX5_takeNumber_80 rfl rfl (by decide) rfl ?_
          refine x_getI 84 1 1 rfl dX5_takeNumber_81 rfl fX5_23 rfl rfl (fun g81 => ?_)
          refine x_aload_n 85 0 dX5_takeNumber_84 rfl rfl (by decide) rfl ?_
          refine x_getI 88 3 3 rfl dX5_takeNumber_85 rfl fX5_89 rfl rfl (fun g85 => ?_)
          refine x_isub 89 dX5_takeNumber_88 rfl ?_
          refine x_iconst 90 dX5_takeNumber_89 rfl ?_
          refine x_icmp_le 101 93 dX5_takeNumber_90 (by decide) rfl (by omega) (fun h90 => ?_) (fun h90 => ?_)
          · refine x_iconst 102 dX5_takeNumber_101 rfl ?_
            refine x_goto 106 dX5_takeNumber_102 (by decide) ?_
            refine x_zret dX5_takeNumber_106 rfl (by first | exact Or.inl rfl | exact Or.inr rfl | exact bI_or _ | omega) ⟨rfl, Nat.le_refl _⟩ (qi_i ?_)
            rw [hend]
            first
              | (refine ⟨i0, i3, (bI_t (by omega)).symm, fun z => by omega, fun z => ⟨e1, i2, hv (by omega), i5, i6⟩⟩)
              | (refine ⟨fun a ha => by rw [up2_o _ _ _ ha, up2_o _ _ _ ha]; exact i0 a ha, ?_, (bI_f (by omega)).symm, fun z => ⟨?_, ?_⟩, fun z => absurd z (by omega)⟩
                 · rw [up2_k _ _ _ (by omega), up2_k _ _ _ (by omega)]; exact i3
                 · rw [up2_k _ _ _ (by omega), up2_s]
                 · rw [up2_s]; omega)
          · refine x_aload_n 94 0 dX5_takeNumber_93 rfl rfl (by decide) rfl ?_
            refine x_iconst 95 dX5_takeNumber_94 rfl ?_
            refine x_vi 98 [_] (c_refuse _ (by omega)) mX5_refuse kX5_43 dX5_takeNumber_95 rfl rfl ⟨by decide, rfl⟩ rfl rfl (Nat.le_of_ble_eq_true rfl) (by decide) (fun r9 M9 q9 => ?_)
            obtain ⟨rfl, rfl⟩ := q9
            refine x_if_eq 105 101 dX5_takeNumber_98 (by decide) rfl (by omega) (fun h98 => ?_) (fun h98 => ?_)
            · refine x_iconst 106 dX5_takeNumber_105 rfl ?_
              refine x_zret dX5_takeNumber_106 rfl (by first | exact Or.inl rfl | exact Or.inr rfl | exact bI_or _ | omega) ⟨rfl, Nat.le_refl _⟩ (qi_i ?_)
              rw [hend]
              first
                | (refine ⟨i0, i3, (bI_t (by omega)).symm, fun z => by omega, fun z => ⟨e1, i2, hv (by omega), i5, i6⟩⟩)
                | (refine ⟨fun a ha => by rw [up2_o _ _ _ ha, up2_o _ _ _ ha]; exact i0 a ha, ?_, (bI_f (by omega)).symm, fun z => ⟨?_, ?_⟩, fun z => absurd z (by omega)⟩
                   · rw [up2_k _ _ _ (by omega), up2_k _ _ _ (by omega)]; exact i3
                   · rw [up2_k _ _ _ (by omega), up2_s]
                   · rw [up2_s]; omega)
            · exfalso; omega
        · refine x_aload_n 42 0 dX5_takeNumber_41 rfl rfl (by decide) rfl ?_
          refine x_aload_n 43 0 dX5_takeNumber_42 rfl rfl (by decide) rfl ?_
          refine x_getI 46 4 4 rfl dX5_takeNumber_43 rfl fX5_65 rfl rfl (fun g43 => ?_)
          refine x_bipush 48 dX5_takeNumber_46 rfl (by decide) ?_
          refine x_imul 49 dX5_takeNumber_48 rfl ?_
          refine x_aload_n 50 0 dX5_takeNumber_49 rfl rfl (by decide) rfl ?_
          refine x_getR 53 0 2 dX5_takeNumber_50 rfl fX5_12 rfl rfl rfl ?_
          refine x_aload_n 54 0 dX5_takeNumber_53 rfl rfl (by decide) rfl ?_
          refine x_getI 57 1 1 rfl dX5_takeNumber_54 rfl fX5_23 rfl rfl (fun g54 => ?_)
          rw [e1]
          refine x_vp 60 [_] (c_bAt hT2 _ (by omega)) mX4_byteAt kX5_85 dX5_takeNumber_57 rfl rfl ⟨by decide, rfl⟩ rfl rfl (Nat.le_of_ble_eq_true rfl) (by decide) ?_
          refine x_iadd 61 dX5_takeNumber_60 rfl ?_
          refine x_bipush 63 dX5_takeNumber_61 rfl (by decide) ?_
          refine x_isub 64 dX5_takeNumber_63 rfl ?_
          refine x_cv (Int32.ofInt_toInt _) ?_
          refine x_putI 67 4 4 rfl dX5_takeNumber_64 rfl fX5_65 rfl rfl rfl (i32_rng _) ?_
          refine x_aload_n 68 0 dX5_takeNumber_67 rfl rfl (by decide) rfl ?_
          refine x_dup 69 dX5_takeNumber_68 rfl rfl ?_
          refine x_getI 72 1 1 rfl dX5_takeNumber_69 rfl fX5_23 rfl rfl (fun g69 => ?_)
          refine x_iconst 73 dX5_takeNumber_72 rfl ?_
          refine x_iadd 74 dX5_takeNumber_73 rfl ?_
          refine x_putI 77 1 1 rfl dX5_takeNumber_74 rfl fX5_23 rfl rfl rfl (by rw [up2_k _ _ _ (show (1 : Int) ≠ 4 by omega)]; omega) ?_
          refine x_goto 10 dX5_takeNumber_77 (by decide) ?_
          have hq := isFg_b (by assumption)
          refine ih (q + 1) _ (by omega) (by omega) (by omega) (by rw [up2_s, up2_k _ _ _ (show (1 : Int) ≠ 4 by omega), e1]) (by rw [← scan_go (by omega) (by assumption)]; exact hs) (fun hq2 => ?_) ⟨fun a ha => ?_, ?_, ?_, ?_, ?_⟩ (fun z z1 z2 => ?_)
          · rw [up2_k _ _ _ (show (4 : Int) ≠ 1 by omega), up2_s]
            have e4 := hv (by omega)
            rw [e4]
            by_cases c1 : q = p
            · subst c1
              have : numP b q q = 0 := by (unfold numP; rw [if_pos rfl])
              rw [this, iT (by omega) (by omega)]
              unfold numP; rw [if_neg (by omega), if_pos rfl]; omega
            · have c2 : q = p + 1 := by omega
              subst c2
              have d0 := isFg_b (hz p (by omega) (by omega))
              have : numP b p (p + 1) = b p - 48 := by (unfold numP; rw [if_neg (by omega), if_pos rfl])
              rw [this, iT (by omega) (by omega)]
              unfold numP; rw [if_neg (by omega), if_neg (by omega)]; omega
          · rw [up2_o _ _ _ ha, up2_o _ _ _ ha]; exact i0 a ha
          · rw [up2_k _ _ _ (by omega), up2_k _ _ _ (by omega)]; exact i2
          · rw [up2_k _ _ _ (by omega), up2_k _ _ _ (by omega)]; exact i3
          · rw [up2_k _ _ _ (by omega), up2_k _ _ _ (by omega)]; exact i5
          · rw [up2_k _ _ _ (by omega), up2_k _ _ _ (by omega)]; exact i6
          · by_cases c : z = q
            · subst c; assumption
            · exact hz z z1 (by omega)
  refine x_aload_n 1 0 dX5_takeNumber_0 rfl rfl (by decide) rfl ?_
  refine x_iconst 2 dX5_takeNumber_1 rfl ?_
  refine x_putI 5 2 2 rfl dX5_takeNumber_2 rfl fX5_37 rfl rfl rfl (by omega) ?_
  refine x_aload_n 6 0 dX5_takeNumber_5 rfl rfl (by decide) rfl ?_
  refine x_iconst 7 dX5_takeNumber_6 rfl ?_
  refine x_putI 10 4 4 rfl dX5_takeNumber_7 rfl fX5_65 rfl rfl rfl (by omega) ?_
  refine loop ((n - p).toNat + 1) p _ (by omega) (by omega) (by omega) (by rw [up2_k _ _ _ (by omega), up2_k _ _ _ (by omega)]; exact hp) rfl (fun _ => ?_) ⟨fun a ha => by rw [up2_o _ _ _ ha, up2_o _ _ _ ha], ?_, ?_, ?_, ?_⟩ (fun z z1 z2 => by omega)
  · rw [up2_s]; unfold numP; rw [if_pos rfl]
  · rw [up2_k _ _ _ (by omega), up2_s]
  · rw [up2_k _ _ _ (by omega), up2_k _ _ _ (by omega)]
  · rw [up2_k _ _ _ (by omega), up2_k _ _ _ (by omega)]
  · rw [up2_k _ _ _ (by omega), up2_k _ _ _ (by omega)]
