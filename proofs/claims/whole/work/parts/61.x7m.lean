theorem mLet_ok : ∀ i, i < 5 → ∀ j, j < xlen.getD i 0 → mLet.getD ((mEnds.getD i 0).toNat + j) 0 = xch i (j : Nat) := by decide +kernel
theorem mEnds_ok : ∀ i, i < 5 → mEnds.getD (i + 1) 0 - mEnds.getD i 0 = ((xlen.getD i 0 : Nat) : Int) ∧ 0 ≤ mEnds.getD i 0 ∧ mEnds.getD i 0 + ((xlen.getD i 0 : Nat) : Int) ≤ 26 ∧ 0 ≤ mEnds.getD (i + 1) 0 ∧ mEnds.getD (i + 1) 0 ≤ 26 := by decide +kernel
theorem mLet_b : ∀ i, i < 26 → 0 ≤ mLet.getD i 0 ∧ mLet.getD i 0 ≤ 127 := by decide +kernel
/-- the first k letters are those of word i -/
def spK (b : Int → Int) (s e : Int) (i k : Nat) : Bool := decide (e - s = ((xlen.getD i 0 : Nat) : Int)) && !anyN (fun j => decide (b (s + (j : Int)) ≠ xch i (j : Int))) k
theorem spK_s {b : Int → Int} {s e : Int} {i k : Nat} : (spK b s e i (k + 1) = true) ↔ (spK b s e i k = true ∧ b (s + (k : Int)) = xch i (k : Int)) := by
  unfold spK
  show (decide (e - s = ((xlen.getD i 0 : Nat) : Int)) && !(anyN (fun j => decide (b (s + (j : Int)) ≠ xch i (j : Int))) k || decide (b (s + (k : Int)) ≠ xch i (k : Int)))) = true ↔ _
  by_cases h : b (s + (k : Int)) = xch i (k : Int)
  · rw [show decide (b (s + (k : Int)) ≠ xch i (k : Int)) = false from decide_eq_false (fun q => q h)]
    cases decide (e - s = ((xlen.getD i 0 : Nat) : Int)) <;> cases anyN (fun j => decide (b (s + (j : Int)) ≠ xch i (j : Int))) k <;> simp [h]
  · rw [show decide (b (s + (k : Int)) ≠ xch i (k : Int)) = true from decide_eq_true h]
    cases decide (e - s = ((xlen.getD i 0 : Nat) : Int)) <;> cases anyN (fun j => decide (b (s + (j : Int)) ≠ xch i (j : Int))) k <;> simp [h]
theorem spK_0 {b : Int → Int} {s e : Int} {i : Nat} : (spK b s e i 0 = true) ↔ e - s = ((xlen.getD i 0 : Nat) : Int) := by
  unfold spK
  show (decide (e - s = ((xlen.getD i 0 : Nat) : Int)) && !false) = true ↔ _
  rw [Bool.not_false, Bool.and_true, decide_eq_true_eq]
theorem spK_len {b : Int → Int} {s e : Int} {i k : Nat} (h : spK b s e i k = true) : e - s = ((xlen.getD i 0 : Nat) : Int) := by
  unfold spK at h
  rw [Bool.and_eq_true] at h
  exact of_decide_eq_true h.1
theorem anyN_mono {p : Nat → Bool} {k : Nat} (h : anyN p k = true) : ∀ n, k ≤ n → anyN p n = true
  | 0, hk => by have e : k = 0 := by omega
                subst e; exact h
  | n + 1, hk => by
    by_cases e : k = n + 1
    · subst e; exact h
    · show (anyN p n || p n) = true
      rw [anyN_mono h n (by omega)]; rfl
theorem spK_all {b : Int → Int} {s e : Int} {i k : Nat} (hk : (k : Int) ≤ e - s) (h : spK b s e i k = true → (k : Int) = e - s) : (spK b s e i k = true) ↔ (spB b s e i = true) := by
  have hd : spB b s e i = spK b s e i (xlen.getD i 0) := rfl
  rw [hd]
  constructor
  · intro q
    have h1 := h q
    have h2 := spK_len q
    rw [show xlen.getD i 0 = k by omega]; exact q
  · intro q
    have h2 := spK_len q
    unfold spK at q ⊢
    rw [Bool.and_eq_true] at q ⊢
    refine ⟨q.1, ?_⟩
    cases e : anyN (fun j => decide (b (s + (j : Int)) ≠ xch i (j : Int))) k with
    | false => rfl
    | true =>
      have := anyN_mono e (xlen.getD i 0) (by omega)
      rw [this] at q
      exact absurd q.2 (by decide)
def nmR (x : Int) : Int := if x = -1 then -4 else x
theorem wordN_at {b : Int → Int} {s e : Int} {i : Nat} (hi : i < 5) (h0 : ∀ j, j < i → ¬ spB b s e j = true) (h : spB b s e i = true) : wordN b s e = (i : Int) := by
  unfold wordN
  match i, hi with
  | 0, _ => rw [if_pos h]; rfl
  | 1, _ => rw [if_neg (h0 0 (by omega)), if_pos h]; rfl
  | 2, _ => rw [if_neg (h0 0 (by omega)), if_neg (h0 1 (by omega)), if_pos h]; rfl
  | 3, _ => rw [if_neg (h0 0 (by omega)), if_neg (h0 1 (by omega)), if_neg (h0 2 (by omega)), if_pos h]; rfl
  | 4, _ => rw [if_neg (h0 0 (by omega)), if_neg (h0 1 (by omega)), if_neg (h0 2 (by omega)), if_neg (h0 3 (by omega)), if_pos h]; rfl
theorem wordN_no {b : Int → Int} {s e : Int} (h0 : ∀ j, j < 5 → ¬ spB b s e j = true) : wordN b s e = -1 := by
  unfold wordN
  rw [if_neg (h0 0 (by omega)), if_neg (h0 1 (by omega)), if_neg (h0 2 (by omega)), if_neg (h0 3 (by omega)), if_neg (h0 4 (by omega))]

set_option maxHeartbeats 4000000 in
theorem m_nameHere {g : GG} {M : Mem} {n : Int} {b : Int → Int} (hT : TQ M n b) (s e : Int) (hs : M 50 11 = s) (he : M 50 10 = e) (hse : 0 ≤ s ∧ s ≤ e ∧ e ≤ n) : CP g tX7_nameHere 1 [rv g 50] M (nmR (if M 50 12 = 1 then wordN b s e else -1)) := by
  refine Con.of [some (rv g 50), none, none, none] (by decide +kernel) rfl (Nat.le_of_ble_eq_true rfl) ?_
  have n1 := hT.2.1
  obtain ⟨m1, m2_⟩ := hT.2.2.2
  have outer : ∀ (m i : Nat) (j2 j3 : Option Value), 5 - i < m → i ≤ 5 → (∀ j, j < i → M 50 12 = 1 ∧ ¬ spB b s e j = true) → X g tX7_nameHere (kk0 1) 2 [some (rv g 50), some (iv i), j2, j3] [] (S0, R0, M) (QP M (nmR (if M 50 12 = 1 then wordN b s e else -1))) := by
    intro m
    induction m with
    | zero => intro i j2 j3 k1 k2; omega
    | succ m ih =>
      intro i j2 j3 k1 k2 hno
      have inner : i < 5 → M 50 12 = 1 → ∀ (m2 k : Nat), e - s - k < m2 → (k : Int) ≤ e - s → X g tX7_nameHere (kk0 1) 50 [some (rv g 50), some (iv i), some (iv (bI (spK b s e i k = true))), some (iv k)] [] (S0, R0, M) (QP M (nmR (if M 50 12 = 1 then wordN b s e else -1))) := by
        intro hi5 h12 m2
        have me := mEnds_ok i hi5
        have ml := mLet_ok i hi5
        have ei : M 54 (i : Int) = mEnds.getD i 0 := m1 i (by omega)
        obtain ⟨E0, hE0⟩ := Int.eq_ofNat_of_zero_le me.2.1
        induction m2 with
        | zero => intro k q1 q2; omega
        | succ m2 ih2 =>
          intro k q1 q2
          refine x_iload_n 51 2 dX7_nameHere_50 rfl rfl (by decide) rfl ?_
          refine x_ifeq_b 105 54 dX7_nameHere_51 (by decide) rfl (fun h51 => ?_) (fun h51 => ?_)
          · have hall := spK_all (b := b) (i := i) (k := k) q2 (fun z => by first | omega | contradiction)
            refine x_iload_n 106 2 dX7_nameHere_105 rfl rfl (by decide) rfl ?_
            refine x_ifeq_b 111 109 dX7_nameHere_106 (by decide) rfl (fun h106 => ?_) (fun h106 => ?_)
            · refine x_iinc 114 _ dX7_nameHere_111 rfl (by decide) rfl rfl rfl ?_
              refine x_goto 2 dX7_nameHere_114 (by decide) ?_
              refine ih (i + 1) _ _ (by omega) (by omega) (fun j hj => ?_)
              by_cases ej : j = i
              · subst ej; exact ⟨h12, fun q => by have := hall.mpr q; contradiction⟩
              · exact hno j (by omega)
            · refine x_iload_n 110 1 dX7_nameHere_109 rfl rfl (by decide) rfl ?_
              refine x_iret dX7_nameHere_110 rfl ⟨rfl, Nat.le_refl _⟩ (qp_i ?_ rfl)
              rw [if_pos h12, wordN_at hi5 (fun j hj => (hno j hj).2) (hall.mp (by assumption))]
              unfold nmR; rw [if_neg (by omega)]
          · refine x_iload_n 55 3 dX7_nameHere_54 rfl rfl (by decide) rfl ?_
            refine x_aload_n 56 0 dX7_nameHere_55 rfl rfl (by decide) rfl ?_
            refine x_getI 59 10 10 rfl dX7_nameHere_56 rfl fX7_72 rfl rfl (fun g56 => ?_)
            rw [he]
            refine x_aload_n 60 0 dX7_nameHere_59 rfl rfl (by decide) rfl ?_
            refine x_getI 63 11 11 rfl dX7_nameHere_60 rfl fX7_63 rfl rfl (fun g60 => ?_)
            rw [hs]
            refine x_isub 64 dX7_nameHere_63 rfl ?_
            refine x_icmp_ge 105 67 dX7_nameHere_64 (by decide) rfl (by omega) (fun h64 => ?_) (fun h64 => ?_)
            · have hall := spK_all (b := b) (i := i) (k := k) q2 (fun z => by first | omega | contradiction)
              refine x_iload_n 106 2 dX7_nameHere_105 rfl rfl (by decide) rfl ?_
              refine x_ifeq_b 111 109 dX7_nameHere_106 (by decide) rfl (fun h106 => ?_) (fun h106 => ?_)
              · refine x_iinc 114 _ dX7_nameHere_111 rfl (by decide) rfl rfl rfl ?_
                refine x_goto 2 dX7_nameHere_114 (by decide) ?_
                refine ih (i + 1) _ _ (by omega) (by omega) (fun j hj => ?_)
                by_cases ej : j = i
                · subst ej; exact ⟨h12, fun q => by have := hall.mpr q; contradiction⟩
                · exact hno j (by omega)
              · refine x_iload_n 110 1 dX7_nameHere_109 rfl rfl (by decide) rfl ?_
                refine x_iret dX7_nameHere_110 rfl ⟨rfl, Nat.le_refl _⟩ (qp_i ?_ rfl)
                rw [if_pos h12, wordN_at hi5 (fun j hj => (hno j hj).2) (hall.mp (by assumption))]
                unfold nmR; rw [if_neg (by omega)]
            · have hlen := spK_len (by assumption : spK b s e i k = true)
              have hml := ml k (by omega)
              rw [hE0, Int.toNat_natCast] at hml
              have el : M 55 ((E0 : Int) + k) = xch i k := by
                have := m2_ (E0 + k) (by omega)
                rw [hml] at this
                exact this
              have xb := mLet_b (E0 + k) (by omega)
              rw [hml] at xb
              refine x_cut 98 (fun z => z = bI (spK b s e i (k + 1) = true)) (fun tail67 => ?_) (fun z67 hz67 => ?_)
              · refine x_aload_n 68 0 dX7_nameHere_67 rfl rfl (by decide) rfl ?_
                refine x_aload_n 69 0 dX7_nameHere_68 rfl rfl (by decide) rfl ?_
                refine x_getI 72 11 11 rfl dX7_nameHere_69 rfl fX7_63 rfl rfl (fun g69 => ?_)
                rw [hs]
                refine x_iload_n 73 3 dX7_nameHere_72 rfl rfl (by decide) rfl ?_
                refine x_iadd 74 dX7_nameHere_73 rfl ?_
                refine x_vp 77 [_] (m_byteAt hT _ (by omega)) mX7_byteAt kX7_75 dX7_nameHere_74 rfl rfl ⟨by decide, rfl⟩ rfl rfl (Nat.le_of_ble_eq_true rfl) (by decide) ?_
                rw [btA_in (show s + (k : Int) < n by omega)]
                have tb_ := hT.2.2.1 (s + (k : Int)) (by omega) (by omega)
                refine x_aload_n 78 0 dX7_nameHere_77 rfl rfl (by decide) rfl ?_
                refine x_getR 81 15 55 dX7_nameHere_78 rfl fX7_22 rfl rfl rfl ?_
                refine x_aload_n 82 0 dX7_nameHere_81 rfl rfl (by decide) rfl ?_
                refine x_getR 85 14 54 dX7_nameHere_82 rfl fX7_19 rfl rfl rfl ?_
                refine x_iload_n 86 1 dX7_nameHere_85 rfl rfl (by decide) rfl ?_
                refine x_iaload 87 dX7_nameHere_86 rfl rfl (by omega) (fun g86 => ?_)
                rw [ei, hE0]
                refine x_iload_n 88 3 dX7_nameHere_87 rfl rfl (by decide) rfl ?_
                refine x_iadd 89 dX7_nameHere_88 rfl ?_
                refine x_iaload 90 dX7_nameHere_89 rfl rfl (by omega) (fun g89 => ?_)
                rw [el]
                refine x_icmp_ne 97 93 dX7_nameHere_90 (by decide) rfl (by omega) (fun h90 => ?_) (fun h90 => ?_)
                · refine x_iconst 98 dX7_nameHere_97 rfl ?_
                  first
                    | exact tail67 _ (bI_t (spK_s.mpr ⟨by assumption, by assumption⟩)).symm
                    | exact tail67 _ (bI_f (fun q => absurd (spK_s.mp q).2 (by assumption))).symm
                · refine x_iconst 94 dX7_nameHere_93 rfl ?_
                  refine x_goto 98 dX7_nameHere_94 (by decide) ?_
                  first
                    | exact tail67 _ (bI_t (spK_s.mpr ⟨by assumption, by assumption⟩)).symm
                    | exact tail67 _ (bI_f (fun q => absurd (spK_s.mp q).2 (by assumption))).symm
              · subst z67
                refine x_istore_n 99 2 _ dX7_nameHere_98 rfl rfl (by decide) rfl rfl ?_
                refine x_iinc 102 _ dX7_nameHere_99 rfl (by decide) rfl rfl rfl ?_
                refine x_goto 50 dX7_nameHere_102 (by decide) ?_
                exact ih2 (k + 1) (by omega) (by omega)
      refine x_iload_n 3 1 dX7_nameHere_2 rfl rfl (by decide) rfl ?_
      refine x_iconst 4 dX7_nameHere_3 rfl ?_
      refine x_icmp_ge 117 7 dX7_nameHere_4 (by decide) rfl (by omega) (fun h4 => ?_) (fun h4 => ?_)
      · refine x_bipush 119 dX7_nameHere_117 rfl (by decide) ?_
        refine x_iret dX7_nameHere_119 rfl ⟨rfl, Nat.le_refl _⟩ (qp_i ?_ rfl)
        first
          | (rw [if_neg (by assumption)]; rfl)
          | (have ei : i = 5 := by omega
             subst ei
             rw [if_pos (hno 0 (by omega)).1, wordN_no (fun j hj => (hno j hj).2)]; rfl)
      · refine x_aload_n 8 0 dX7_nameHere_7 rfl rfl (by decide) rfl ?_
        refine x_getI 11 12 12 rfl dX7_nameHere_8 rfl fX7_69 rfl rfl (fun g8 => ?_)
        refine x_iconst 12 dX7_nameHere_11 rfl ?_
        refine x_icmp_ne 117 15 dX7_nameHere_12 (by decide) rfl (by omega) (fun h12 => ?_) (fun h12 => ?_)
        · refine x_bipush 119 dX7_nameHere_117 rfl (by decide) ?_
          refine x_iret dX7_nameHere_119 rfl ⟨rfl, Nat.le_refl _⟩ (qp_i ?_ rfl)
          first
            | (rw [if_neg (by assumption)]; rfl)
            | (have ei : i = 5 := by omega
               subst ei
               rw [if_pos (hno 0 (by omega)).1, wordN_no (fun j hj => (hno j hj).2)]; rfl)
        · have me := mEnds_ok i (by omega)
          have ei : M 54 (i : Int) = mEnds.getD i 0 := m1 i (by omega)
          have ei2 : M 54 ((i : Int) + 1) = mEnds.getD (i + 1) 0 := m1 (i + 1) (by omega)
          refine x_cut 47 (fun z => z = bI (spK b s e i 0 = true)) (fun tail15 => ?_) (fun z15 hz15 => ?_)
          · refine x_aload_n 16 0 dX7_nameHere_15 rfl rfl (by decide) rfl ?_
            refine x_getI 19 10 10 rfl dX7_nameHere_16 rfl fX7_72 rfl rfl (fun g16 => ?_)
            rw [he]
            refine x_aload_n 20 0 dX7_nameHere_19 rfl rfl (by decide) rfl ?_
            refine x_getI 23 11 11 rfl dX7_nameHere_20 rfl fX7_63 rfl rfl (fun g20 => ?_)
            rw [hs]
            refine x_isub 24 dX7_nameHere_23 rfl ?_
            refine x_aload_n 25 0 dX7_nameHere_24 rfl rfl (by decide) rfl ?_
            refine x_getR 28 14 54 dX7_nameHere_25 rfl fX7_19 rfl rfl rfl ?_
            refine x_iload_n 29 1 dX7_nameHere_28 rfl rfl (by decide) rfl ?_
            refine x_iconst 30 dX7_nameHere_29 rfl ?_
            refine x_iadd 31 dX7_nameHere_30 rfl ?_
            refine x_iaload 32 dX7_nameHere_31 rfl rfl (by omega) (fun g31 => ?_)
            rw [ei2]
            refine x_aload_n 33 0 dX7_nameHere_32 rfl rfl (by decide) rfl ?_
            refine x_getR 36 14 54 dX7_nameHere_33 rfl fX7_19 rfl rfl rfl ?_
            refine x_iload_n 37 1 dX7_nameHere_36 rfl rfl (by decide) rfl ?_
            refine x_iaload 38 dX7_nameHere_37 rfl rfl (by omega) (fun g37 => ?_)
            rw [ei]
            refine x_isub 39 dX7_nameHere_38 rfl ?_
            refine x_icmp_ne 46 42 dX7_nameHere_39 (by decide) rfl (by omega) (fun h39 => ?_) (fun h39 => ?_)
            · refine x_iconst 47 dX7_nameHere_46 rfl ?_
              first
                | exact tail15 _ (bI_t (spK_0.mpr (by omega))).symm
                | exact tail15 _ (bI_f (fun q => by have := spK_0.mp q; omega)).symm
            · refine x_iconst 43 dX7_nameHere_42 rfl ?_
              refine x_goto 47 dX7_nameHere_43 (by decide) ?_
              first
                | exact tail15 _ (bI_t (spK_0.mpr (by omega))).symm
                | exact tail15 _ (bI_f (fun q => by have := spK_0.mp q; omega)).symm
          · subst z15
            refine x_istore_n 48 2 _ dX7_nameHere_47 rfl rfl (by decide) rfl rfl ?_
            refine x_iconst 49 dX7_nameHere_48 rfl ?_
            refine x_istore_n 50 3 _ dX7_nameHere_49 rfl rfl (by decide) rfl rfl ?_
            exact inner (by omega) (by assumption) ((e - s).toNat + 1) 0 (by omega) (by omega)
  refine x_iconst 1 dX7_nameHere_0 rfl ?_
  refine x_istore_n 2 1 _ dX7_nameHere_1 rfl rfl (by decide) rfl rfl ?_
  exact outer 6 0 _ _ (by omega) (by omega) (fun j hj => by omega)

set_option maxHeartbeats 4000000 in
theorem m_numberB {g : GG} {M : Mem} (h8 : 0 < M 50 8) (mo : Int) (hmo : -2147483648 ≤ mo ∧ mo ≤ 2147483647) : CI g tX7_number 2 [rv g 50, iv 0, iv mo] M (fun r M2 => r = 0 ∧ M2 = M) := by
  refine Con.of [some (rv g 50), some (iv 0), some (iv mo), none] (by decide +kernel) rfl (Nat.le_of_ble_eq_true rfl) ?_
  refine x_aload_n 1 0 dX7_number_0 rfl rfl (by decide) rfl ?_
  refine x_getI 4 8 8 rfl dX7_number_1 rfl fX7_60 rfl rfl (fun g1 => ?_)
  refine x_if_ne 20 7 dX7_number_4 (by decide) rfl (by omega) (fun h4 => ?_) (fun h4 => ?_)
  · refine x_aload_n 21 0 dX7_number_20 rfl rfl (by decide) rfl ?_
    refine x_getI 24 8 8 rfl dX7_number_21 rfl fX7_60 rfl rfl (fun g21 => ?_)
    refine x_if_ne 47 27 dX7_number_24 (by decide) rfl (by omega) (fun h24 => ?_) (fun h24 => ?_)
    · refine x_aload_n 48 0 dX7_number_47 rfl rfl (by decide) rfl ?_
      refine x_getI 51 8 8 rfl dX7_number_48 rfl fX7_60 rfl rfl (fun g48 => ?_)
      refine x_if_ne 61 54 dX7_number_51 (by decide) rfl (by omega) (fun h51 => ?_) (fun h51 => ?_)
      · refine x_iload_n 62 1 dX7_number_61 rfl rfl (by decide) rfl ?_
        refine x_istore_n 63 3 _ dX7_number_62 rfl rfl (by decide) rfl rfl ?_
        refine x_aload_n 64 0 dX7_number_63 rfl rfl (by decide) rfl ?_
        refine x_vv 67 [] (m_stepB h8) mX7_step kX7_94 dX7_number_64 rfl rfl ⟨by decide, rfl⟩ rfl rfl (Nat.le_of_ble_eq_true rfl) (by decide) (fun M2 q2 => ?_)
        subst q2
        refine x_iload_n 68 3 dX7_number_67 rfl rfl (by decide) rfl ?_
        refine x_iret dX7_number_68 rfl ⟨rfl, Nat.le_refl _⟩ (qi_i ?_)
        exact ⟨rfl, rfl⟩
      · exfalso; omega
    · exfalso; omega
  · exfalso; omega

set_option maxHeartbeats 4000000 in
theorem m_number {g : GG} {M : Mem} {n : Int} {b : Int → Int} (hT : TQ M n b) (p : Int) (hK : TKS b n p M) (hB : tkBb b n p = false) (hpn : 0 ≤ p ∧ p ≤ n) (mo : Int) (hmo : 0 ≤ mo ∧ mo ≤ 99) : CI g tX7_number 2 [rv g 50, iv 0, iv mo] M (fun r M2 => FS M M2 ∧ (numO b n p mo ≠ 0 → r = 0 ∧ M2 50 8 = numO b n p mo ∧ M2 50 9 = tkS b n p) ∧ (numO b n p mo = 0 → r = tkV b n p ∧ TKS b n (tkE b n p) M2)) := by
  refine Con.of [some (rv g 50), some (iv 0), some (iv mo), none] (by decide +kernel) rfl (Nat.le_of_ble_eq_true rfl) ?_
  obtain ⟨a11, a12, a10, -, a8_⟩ := id hK
  obtain ⟨a8, a13⟩ := a8_ hB
  have hE := tkE_le (b := b) hpn.2
  have hS := tkS_le (b := b) hpn.2
  have hvb := tkV_bd hpn.2 hB
  by_cases h2 : tkK b n p = 2
  · by_cases hv : tkV b n p ≤ mo
    · have hz : numO b n p mo = 0 := by (unfold numO; rw [hB, if_neg (by decide), if_neg (by omega), if_neg (by omega)])
      refine x_aload_n 1 0 dX7_number_0 rfl rfl (by decide) rfl ?_
      refine x_getI 4 8 8 rfl dX7_number_1 rfl fX7_60 rfl rfl (fun g1 => ?_)
      refine x_if_ne 20 7 dX7_number_4 (by decide) rfl (by omega) (fun h4 => ?_) (fun h4 => ?_)
      · exfalso; omega
      · refine x_aload_n 8 0 dX7_number_7 rfl rfl (by decide) rfl ?_
        refine x_getI 11 12 12 rfl dX7_number_8 rfl fX7_69 rfl rfl (fun g8 => ?_)
        refine x_iconst 12 dX7_number_11 rfl ?_
        refine x_icmp_eq 20 15 dX7_number_12 (by decide) rfl (by omega) (fun h12 => ?_) (fun h12 => ?_)
        · refine x_aload_n 21 0 dX7_number_20 rfl rfl (by decide) rfl ?_
          refine x_getI 24 8 8 rfl dX7_number_21 rfl fX7_60 rfl rfl (fun g21 => ?_)
          refine x_if_ne 47 27 dX7_number_24 (by decide) rfl (by omega) (fun h24 => ?_) (fun h24 => ?_)
          · exfalso; omega
          · refine x_aload_n 28 0 dX7_number_27 rfl rfl (by decide) rfl ?_
            refine x_getI 31 13 13 rfl dX7_number_28 rfl fX7_79 rfl rfl (fun g28 => ?_)
            refine x_i2l 32 dX7_number_31 rfl (by omega) ?_
            refine x_iload_n 33 1 dX7_number_32 rfl rfl (by decide) rfl ?_
            refine x_i2l 34 dX7_number_33 rfl (by omega) ?_
            refine x_iload_n 35 2 dX7_number_34 rfl rfl (by decide) rfl ?_
            refine x_i2l 36 dX7_number_35 rfl (by omega) ?_
            refine x_sp 39 [_, _, _] (m_in _ _ _ (by omega) (by omega) (by omega)) mX7_in kX7_53 dX7_number_36 rfl rfl rfl (Nat.le_of_ble_eq_true rfl) (by decide) ?_
            refine x_ifne_b 47 42 dX7_number_39 (by decide) rfl (fun h39 => ?_) (fun h39 => ?_)
            · refine x_aload_n 48 0 dX7_number_47 rfl rfl (by decide) rfl ?_
              refine x_getI 51 8 8 rfl dX7_number_48 rfl fX7_60 rfl rfl (fun g48 => ?_)
              refine x_if_ne 61 54 dX7_number_51 (by decide) rfl (by omega) (fun h51 => ?_) (fun h51 => ?_)
              · exfalso; omega
              · refine x_aload_n 55 0 dX7_number_54 rfl rfl (by decide) rfl ?_
                refine x_getI 58 13 13 rfl dX7_number_55 rfl fX7_79 rfl rfl (fun g55 => ?_)
                refine x_goto 62 dX7_number_58 (by decide) ?_
                refine x_istore_n 63 3 _ dX7_number_62 rfl rfl (by decide) rfl rfl ?_
                refine x_aload_n 64 0 dX7_number_63 rfl rfl (by decide) rfl ?_
                refine x_vv 67 [] (m_step hT (tkE b n p) a10 a8 (by omega)) mX7_step kX7_94 dX7_number_64 rfl rfl ⟨by decide, rfl⟩ rfl rfl (Nat.le_of_ble_eq_true rfl) (by decide) (fun M2 q2 => ?_)
                obtain ⟨hK2, hF2⟩ := q2
                refine x_iload_n 68 3 dX7_number_67 rfl rfl (by decide) rfl ?_
                refine x_iret dX7_number_68 rfl ⟨rfl, Nat.le_refl _⟩ (qi_i ?_)
                exact ⟨hF2, fun q => absurd hz q, fun _ => ⟨a13, hK2⟩⟩
            · exfalso; omega
        · exfalso; omega
    · have hz : numO b n p mo = 3 := by (unfold numO; rw [hB, if_neg (by decide), if_neg (by omega), if_pos (by omega)])
      refine x_aload_n 1 0 dX7_number_0 rfl rfl (by decide) rfl ?_
      refine x_getI 4 8 8 rfl dX7_number_1 rfl fX7_60 rfl rfl (fun g1 => ?_)
      refine x_if_ne 20 7 dX7_number_4 (by decide) rfl (by omega) (fun h4 => ?_) (fun h4 => ?_)
      · exfalso; omega
      · refine x_aload_n 8 0 dX7_number_7 rfl rfl (by decide) rfl ?_
        refine x_getI 11 12 12 rfl dX7_number_8 rfl fX7_69 rfl rfl (fun g8 => ?_)
        refine x_iconst 12 dX7_number_11 rfl ?_
        refine x_icmp_eq 20 15 dX7_number_12 (by decide) rfl (by omega) (fun h12 => ?_) (fun h12 => ?_)
        · refine x_aload_n 21 0 dX7_number_20 rfl rfl (by decide) rfl ?_
          refine x_getI 24 8 8 rfl dX7_number_21 rfl fX7_60 rfl rfl (fun g21 => ?_)
          refine x_if_ne 47 27 dX7_number_24 (by decide) rfl (by omega) (fun h24 => ?_) (fun h24 => ?_)
          · exfalso; omega
          · refine x_aload_n 28 0 dX7_number_27 rfl rfl (by decide) rfl ?_
            refine x_getI 31 13 13 rfl dX7_number_28 rfl fX7_79 rfl rfl (fun g28 => ?_)
            refine x_i2l 32 dX7_number_31 rfl (by omega) ?_
            refine x_iload_n 33 1 dX7_number_32 rfl rfl (by decide) rfl ?_
            refine x_i2l 34 dX7_number_33 rfl (by omega) ?_
            refine x_iload_n 35 2 dX7_number_34 rfl rfl (by decide) rfl ?_
            refine x_i2l 36 dX7_number_35 rfl (by omega) ?_
            refine x_sp 39 [_, _, _] (m_in _ _ _ (by omega) (by omega) (by omega)) mX7_in kX7_53 dX7_number_36 rfl rfl rfl (Nat.le_of_ble_eq_true rfl) (by decide) ?_
            refine x_ifne_b 47 42 dX7_number_39 (by decide) rfl (fun h39 => ?_) (fun h39 => ?_)
            · exfalso; omega
            · refine x_aload_n 43 0 dX7_number_42 rfl rfl (by decide) rfl ?_
              refine x_iconst 44 dX7_number_43 rfl ?_
              refine x_vv 47 [_] (m_fails 3 (by omega)) mX7_fails kX7_90 dX7_number_44 rfl rfl ⟨by decide, rfl⟩ rfl rfl (Nat.le_of_ble_eq_true rfl) (by decide) (fun M2 q2 => ?_)
              rw [if_pos a8] at q2
              have w8 : M2 50 8 = 3 := by (rw [q2, up2_k _ _ _ (by omega), up2_s])
              have w9 : M2 50 9 = tkS b n p := by (rw [q2, up2_s]; exact a11)
              have hF2 : FS M M2 := by (rw [q2]; exact ((FS.rf M).up _ _ (by omega)).up _ _ (by omega))
              refine x_aload_n 48 0 dX7_number_47 rfl rfl (by decide) rfl ?_
              refine x_getI 51 8 8 rfl dX7_number_48 rfl fX7_60 rfl rfl (fun g48 => ?_)
              refine x_if_ne 61 54 dX7_number_51 (by decide) rfl (by omega) (fun h51 => ?_) (fun h51 => ?_)
              · refine x_iload_n 62 1 dX7_number_61 rfl rfl (by decide) rfl ?_
                refine x_istore_n 63 3 _ dX7_number_62 rfl rfl (by decide) rfl rfl ?_
                refine x_aload_n 64 0 dX7_number_63 rfl rfl (by decide) rfl ?_
                refine x_vv 67 [] (m_stepB (by omega)) mX7_step kX7_94 dX7_number_64 rfl rfl ⟨by decide, rfl⟩ rfl rfl (Nat.le_of_ble_eq_true rfl) (by decide) (fun M3 q3 => ?_)
                subst q3
                refine x_iload_n 68 3 dX7_number_67 rfl rfl (by decide) rfl ?_
                refine x_iret dX7_number_68 rfl ⟨rfl, Nat.le_refl _⟩ (qi_i ?_)
                exact ⟨hF2, fun _ => ⟨rfl, w8.trans hz.symm, w9⟩, fun q => by omega⟩
              · exfalso; omega
        · exfalso; omega
  · have hz : numO b n p mo = 2 := by (unfold numO; rw [hB, if_neg (by decide), if_pos h2])
    refine x_aload_n 1 0 dX7_number_0 rfl rfl (by decide) rfl ?_
    refine x_getI 4 8 8 rfl dX7_number_1 rfl fX7_60 rfl rfl (fun g1 => ?_)
    refine x_if_ne 20 7 dX7_number_4 (by decide) rfl (by omega) (fun h4 => ?_) (fun h4 => ?_)
    · exfalso; omega
    · refine x_aload_n 8 0 dX7_number_7 rfl rfl (by decide) rfl ?_
      refine x_getI 11 12 12 rfl dX7_number_8 rfl fX7_69 rfl rfl (fun g8 => ?_)
      refine x_iconst 12 dX7_number_11 rfl ?_
      refine x_icmp_eq 20 15 dX7_number_12 (by decide) rfl (by omega) (fun h12 => ?_) (fun h12 => ?_)
      · exfalso; omega
      · refine x_aload_n 16 0 dX7_number_15 rfl rfl (by decide) rfl ?_
        refine x_iconst 17 dX7_number_16 rfl ?_
        refine x_vv 20 [_] (m_fails 2 (by omega)) mX7_fails kX7_90 dX7_number_17 rfl rfl ⟨by decide, rfl⟩ rfl rfl (Nat.le_of_ble_eq_true rfl) (by decide) (fun M2 q2 => ?_)
        rw [if_pos a8] at q2
        have w8 : M2 50 8 = 2 := by (rw [q2, up2_k _ _ _ (by omega), up2_s])
        have w9 : M2 50 9 = tkS b n p := by (rw [q2, up2_s]; exact a11)
        have hF2 : FS M M2 := by (rw [q2]; exact ((FS.rf M).up _ _ (by omega)).up _ _ (by omega))
        refine x_aload_n 21 0 dX7_number_20 rfl rfl (by decide) rfl ?_
        refine x_getI 24 8 8 rfl dX7_number_21 rfl fX7_60 rfl rfl (fun g21 => ?_)
        refine x_if_ne 47 27 dX7_number_24 (by decide) rfl (by omega) (fun h24 => ?_) (fun h24 => ?_)
        · refine x_aload_n 48 0 dX7_number_47 rfl rfl (by decide) rfl ?_
          refine x_getI 51 8 8 rfl dX7_number_48 rfl fX7_60 rfl rfl (fun g48 => ?_)
          refine x_if_ne 61 54 dX7_number_51 (by decide) rfl (by omega) (fun h51 => ?_) (fun h51 => ?_)
          · refine x_iload_n 62 1 dX7_number_61 rfl rfl (by decide) rfl ?_
            refine x_istore_n 63 3 _ dX7_number_62 rfl rfl (by decide) rfl rfl ?_
            refine x_aload_n 64 0 dX7_number_63 rfl rfl (by decide) rfl ?_
            refine x_vv 67 [] (m_stepB (by omega)) mX7_step kX7_94 dX7_number_64 rfl rfl ⟨by decide, rfl⟩ rfl rfl (Nat.le_of_ble_eq_true rfl) (by decide) (fun M3 q3 => ?_)
            subst q3
            refine x_iload_n 68 3 dX7_number_67 rfl rfl (by decide) rfl ?_
            refine x_iret dX7_number_68 rfl ⟨rfl, Nat.le_refl _⟩ (qi_i ?_)
            exact ⟨hF2, fun _ => ⟨rfl, w8.trans hz.symm, w9⟩, fun q => by omega⟩
          · exfalso; omega
        · exfalso; omega

set_option maxHeartbeats 4000000 in
theorem m_townHereB {g : GG} {M : Mem} (h8 : 0 < M 50 8) : CI g tX7_townHere 3 [rv g 50] M (fun r M2 => ∃ M1 : Mem, (r = 0 ∧ M1 = M) ∧ M2 = up2 M1 50 4 (max r (M1 50 4))) := by
  refine Con.of [some (rv g 50), none] (by decide +kernel) rfl (Nat.le_of_ble_eq_true rfl) ?_
  refine x_rng (fun hrg => ?_)
  refine x_aload_n 1 0 dX7_townHere_0 rfl rfl (by decide) rfl ?_
  refine x_iconst 2 dX7_townHere_1 rfl ?_
  refine x_iconst 3 dX7_townHere_2 rfl ?_
  refine x_vi 6 [_, _] (m_numberB h8 4 (by omega)) mX7_number kX7_97 dX7_townHere_3 rfl rfl ⟨by decide, rfl⟩ rfl rfl (Nat.le_of_ble_eq_true rfl) (by decide) (fun r1 M1 q1 => ?_)
  obtain ⟨rfl, rfl⟩ := q1
  have r4 := hrg 50 4
  refine x_istore_n 7 1 _ dX7_townHere_6 rfl rfl (by decide) rfl rfl ?_
  refine x_aload_n 8 0 dX7_townHere_7 rfl rfl (by decide) rfl ?_
  refine x_cut 24 (fun z => z = max 0 (M1 50 4)) (fun tail8 => ?_) (fun z8 hz8 => ?_)
  · refine x_iload_n 9 1 dX7_townHere_8 rfl rfl (by decide) rfl ?_
    refine x_aload_n 10 0 dX7_townHere_9 rfl rfl (by decide) rfl ?_
    refine x_getI 13 4 4 rfl dX7_townHere_10 rfl fX7_101 rfl rfl (fun g10 => ?_)
    refine x_icmp_le 20 16 dX7_townHere_13 (by decide) rfl (by omega) (fun h13 => ?_) (fun h13 => ?_)
    · refine x_aload_n 21 0 dX7_townHere_20 rfl rfl (by decide) rfl ?_
      refine x_getI 24 4 4 rfl dX7_townHere_21 rfl fX7_101 rfl rfl (fun g21 => ?_)
      exact tail8 _ (by omega)
    · refine x_iload_n 17 1 dX7_townHere_16 rfl rfl (by decide) rfl ?_
      refine x_goto 24 dX7_townHere_17 (by decide) ?_
      exact tail8 _ (by omega)
  · subst z8
    refine x_putI 27 4 4 rfl dX7_townHere_24 rfl fX7_101 rfl rfl rfl (by omega) ?_
    refine x_iload_n 28 1 dX7_townHere_27 rfl rfl (by decide) rfl ?_
    refine x_iret dX7_townHere_28 rfl ⟨rfl, Nat.le_refl _⟩ (qi_i ?_)
    exact ⟨M1, ⟨rfl, rfl⟩, rfl⟩

set_option maxHeartbeats 4000000 in
theorem m_townHere {g : GG} {M : Mem} {n : Int} {b : Int → Int} (hT : TQ M n b) (p : Int) (hK : TKS b n p M) (hB : tkBb b n p = false) (hpn : 0 ≤ p ∧ p ≤ n) : CI g tX7_townHere 3 [rv g 50] M (fun r M2 => ∃ M1 : Mem, (FS M M1 ∧ (numO b n p 4 ≠ 0 → r = 0 ∧ M1 50 8 = numO b n p 4 ∧ M1 50 9 = tkS b n p) ∧ (numO b n p 4 = 0 → r = tkV b n p ∧ TKS b n (tkE b n p) M1)) ∧ M2 = up2 M1 50 4 (max r (M1 50 4))) := by
  refine Con.of [some (rv g 50), none] (by decide +kernel) rfl (Nat.le_of_ble_eq_true rfl) ?_
  refine x_aload_n 1 0 dX7_townHere_0 rfl rfl (by decide) rfl ?_
  refine x_iconst 2 dX7_townHere_1 rfl ?_
  refine x_iconst 3 dX7_townHere_2 rfl ?_
  refine x_vi 6 [_, _] (m_number hT p hK hB hpn 4 (by omega)) mX7_number kX7_97 dX7_townHere_3 rfl rfl ⟨by decide, rfl⟩ rfl rfl (Nat.le_of_ble_eq_true rfl) (by decide) (fun r1 M1 q1 => ?_)
  have rb : 0 ≤ r1 ∧ r1 ≤ 99 := by
    obtain ⟨_, qa, qb⟩ := q1
    by_cases z : numO b n p 4 = 0
    · rw [(qb z).1]; exact tkV_bd hpn.2 hB
    · rw [(qa z).1]; omega
  refine x_rng (fun hrg => ?_)
  have r4 := hrg 50 4
  refine x_istore_n 7 1 _ dX7_townHere_6 rfl rfl (by decide) rfl rfl ?_
  refine x_aload_n 8 0 dX7_townHere_7 rfl rfl (by decide) rfl ?_
  refine x_cut 24 (fun z => z = max r1 (M1 50 4)) (fun tail8 => ?_) (fun z8 hz8 => ?_)
  · refine x_iload_n 9 1 dX7_townHere_8 rfl rfl (by decide) rfl ?_
    refine x_aload_n 10 0 dX7_townHere_9 rfl rfl (by decide) rfl ?_
    refine x_getI 13 4 4 rfl dX7_townHere_10 rfl fX7_101 rfl rfl (fun g10 => ?_)
    refine x_icmp_le 20 16 dX7_townHere_13 (by decide) rfl (by omega) (fun h13 => ?_) (fun h13 => ?_)
    · refine x_aload_n 21 0 dX7_townHere_20 rfl rfl (by decide) rfl ?_
      refine x_getI 24 4 4 rfl dX7_townHere_21 rfl fX7_101 rfl rfl (fun g21 => ?_)
      exact tail8 _ (by omega)
    · refine x_iload_n 17 1 dX7_townHere_16 rfl rfl (by decide) rfl ?_
      refine x_goto 24 dX7_townHere_17 (by decide) ?_
      exact tail8 _ (by omega)
  · subst z8
    refine x_putI 27 4 4 rfl dX7_townHere_24 rfl fX7_101 rfl rfl rfl (by omega) ?_
    refine x_iload_n 28 1 dX7_townHere_27 rfl rfl (by decide) rfl ?_
    refine x_iret dX7_townHere_28 rfl ⟨rfl, Nat.le_refl _⟩ (qi_i ?_)
    exact ⟨M1, q1, rfl⟩
