set_option maxHeartbeats 4000000 in
theorem c_max {g : GG} {M : Mem} (a b : Int) (ha : -2147483648 ≤ a ∧ a ≤ 2147483647) (hb : -2147483648 ≤ b ∧ b ≤ 2147483647) : CP g tJ9_max_7cf53 0 [iv a, iv b] M (max a b) := by
  refine Con.ofF [some (iv a), some (iv b)] (by decide +kernel) rfl (Nat.le_of_ble_eq_true rfl) ?_
  refine x_iload_n 1 0 dJ9_max_7cf53_0 rfl rfl (by decide) rfl ?_
  refine x_iload_n 2 1 dJ9_max_7cf53_1 rfl rfl (by decide) rfl ?_
  refine x_icmp_lt 9 5 dJ9_max_7cf53_2 (by decide) rfl (by omega) (fun h2 => ?_) (fun h2 => ?_)
  · refine x_iload_n 10 1 dJ9_max_7cf53_9 rfl rfl (by decide) rfl ?_
    refine x_iret dJ9_max_7cf53_10 rfl ⟨rfl, Nat.le_refl _⟩ (qp_i ?_ rfl)
    omega
  · refine x_iload_n 6 0 dJ9_max_7cf53_5 rfl rfl (by decide) rfl ?_
    refine x_goto 10 dJ9_max_7cf53_6 (by decide) ?_
    refine x_iret dJ9_max_7cf53_10 rfl ⟨rfl, Nat.le_refl _⟩ (qp_i ?_ rfl)
    omega

theorem ungrp_j {i j : Int} (hi : 0 ≤ i ∧ i ≤ 5) (hj : 0 ≤ j ∧ j ≤ 5) (h : i ≠ j) : ungrp j ≠ ungrp i := by
  unfold ungrp
  split <;> split <;> omega
theorem cntW_s (p : Nat → Bool) (w : Nat → Int) (x : Int) (n : Nat) : cntW p w x (n + 1) = cntW p w x n + (if p n = true ∧ w n = x then 1 else 0) := rfl
theorem cntW_t {p : Nat → Bool} {w : Nat → Int} {x : Int} {n : Nat} (hp : p n = true) : cntW p w x (n + 1) = cntW p w x n + (if w n = x then 1 else 0) := by
  rw [cntW_s]; by_cases e : w n = x
  · rw [if_pos ⟨hp, e⟩, if_pos e]
  · rw [if_neg (fun h => e h.2), if_neg e]
theorem cntW_f {p : Nat → Bool} {w : Nat → Int} {x : Int} {n : Nat} (hp : ¬ p n = true) : cntW p w x (n + 1) = cntW p w x n := by
  rw [cntW_s, if_neg (fun h => hp h.1)]; rfl
theorem worst_f {s : ST} {t : Int} {k n : Nat} (hp : ¬ stB s t n = true) : worst s t k (n + 1) = worst s t k n := by
  unfold worst
  exact congrArg mx6 (funext fun y => cntW_f hp)
theorem worst_t {s : ST} {t : Int} {k n : Nat} (hp : stB s t n = true) (h : whoL (sTry s t n) k = 9 ∨ (0 ≤ whoL (sTry s t n) k ∧ whoL (sTry s t n) k ≤ 4)) : worst s t k (n + 1) = max (worst s t k n) (cntW (stB s t) (fun v => whoL (sTry s t v) k) (whoL (sTry s t n) k) n + 1) := by
  unfold worst
  exact mx6_s (by omega) (fun y => cntW_t hp)
theorem worst_le (s : ST) (t : Int) (k n : Nat) : worst s t k n ≤ n := by
  have a := fun x => cntW_le (stB s t) (fun v => whoL (sTry s t v) k) x n
  have a0 := a 0
  have a1 := a 1
  have a2 := a 2
  have a3 := a 3
  have a4 := a 4
  have a9 := a 9
  unfold worst mx6
  dsimp only
  omega

set_option maxHeartbeats 4000000 in
theorem c_leftAtWorst {g : GG} {M : Mem} {s : ST} (hO : SOK s) (t : Int) (k : Nat) (hk : k < 21) (hno : ∀ v k : Nat, v < 21 → k < 21 → M 26 (21 * (v : Int) + k) = wkL (goV (sTry s t v) k) 0) : CI g tX6_leftAtWorst 1 [rv g 0, iv ((bitN (stB s t) 21 : Nat) : Int), iv k] M (fun r M3 => r = ((worst s t k 21 : Nat) : Int) ∧ ∀ a, a ≠ 27 → M3 a = M a) := by
  refine Con.of [some (rv g 0), some (iv ((bitN (stB s t) 21 : Nat) : Int)), some (iv k), none, none, none, none] (by decide +kernel) rfl (Nat.le_of_ble_eq_true rfl) ?_
  have hbl : bitN (stB s t) 21 < 2 ^ 21 := bitN_lt _ _
  have hbl2 : bitN (stB s t) 21 < 2097152 := hbl
  have o1 := hO.1.1
  have main : ∀ (m n : Nat) (M2 : Mem) (j5 j6 : Option Value), 21 - n < m → n ≤ 21 → (∀ a, a ≠ 27 → M2 a = M a) → (∀ j : Int, 0 ≤ j ∧ j ≤ 5 → M2 27 j = ((cntW (stB s t) (fun v => whoL (sTry s t v) k) (ungrp j) n : Nat) : Int)) → X g tX6_leftAtWorst (kk0 1) 25 [some (rv g 0), some (iv ((bitN (stB s t) 21 : Nat) : Int)), some (iv k), some (iv ((worst s t k n : Nat) : Int)), some (iv n), j5, j6] [] (S0, R0, M2) (QI (fun r M3 => r = ((worst s t k 21 : Nat) : Int) ∧ ∀ a, a ≠ 27 → M3 a = M a)) := by
    intro m
    induction m with
    | zero => intro n M2 j5 j6 k1 k2; omega
    | succ m ih =>
      intro n M2 j5 j6 k1 k2 hF hT
      have hbit := bitN_bit (stB s t) 21 n
      have hwle := worst_le s t k n
      have hind : n < 21 → M2 26 ((n : Int) * 21 + k) = wkL (goV (sTry s t n) k) 0 := fun h => by rw [hF 26 (by omega), Int.mul_comm]; exact hno n k h hk
      have tail : ∀ (j : Int) (l5 : Option Value), n < 21 → stB s t n = true → 0 ≤ j ∧ j ≤ 5 → whoL (sTry s t n) k = ungrp j → X g tX6_leftAtWorst (kk0 1) 73 [some (rv g 0), some (iv ((bitN (stB s t) 21 : Nat) : Int)), some (iv k), some (iv ((worst s t k n : Nat) : Int)), some (iv n), l5, some (iv j)] [] (S0, R0, M2) (QI (fun r M3 => r = ((worst s t k 21 : Nat) : Int) ∧ ∀ a, a ≠ 27 → M3 a = M a)) := by
        intro j l5 hn hp hj hu
        have hcj := hT j hj
        have hcl := cntW_le (stB s t) (fun v => whoL (sTry s t v) k) (ungrp j) n
        have hw := worst_t hp (whoL_in (sTry_WF hO t (by omega)) k)
        rw [hu] at hw
        have eW : max ((worst s t k n : Nat) : Int) (up2 M2 27 j (M2 27 j + 1) 27 j) = ((worst s t k (n + 1) : Nat) : Int) := by
          rw [up2_s, hcj, hw]
          omega
        refine x_aload_n 74 0 dX6_leftAtWorst_73 rfl rfl (by decide) rfl ?_
        refine x_getR 77 11 27 dX6_leftAtWorst_74 rfl fX6_66 rfl rfl rfl ?_
        refine x_iload 79 6 dX6_leftAtWorst_77 rfl (by decide) rfl ?_
        refine x_dup2 80 dX6_leftAtWorst_79 rfl rfl rfl ?_
        refine x_iaload 81 dX6_leftAtWorst_80 rfl rfl (by omega) (fun g80 => ?_)
        refine x_iconst 82 dX6_leftAtWorst_81 rfl ?_
        refine x_iadd 83 dX6_leftAtWorst_82 rfl ?_
        refine x_iastore 84 dX6_leftAtWorst_83 rfl rfl (by omega) (by omega) ?_
        refine x_iload_n 85 3 dX6_leftAtWorst_84 rfl rfl (by decide) rfl ?_
        refine x_aload_n 86 0 dX6_leftAtWorst_85 rfl rfl (by decide) rfl ?_
        refine x_getR 89 11 27 dX6_leftAtWorst_86 rfl fX6_66 rfl rfl rfl ?_
        refine x_iload 91 6 dX6_leftAtWorst_89 rfl (by decide) rfl ?_
        refine x_iaload 92 dX6_leftAtWorst_91 rfl rfl (by omega) (fun g91 => ?_)
        refine x_sp 95 [_, _] (c_max _ _ (by omega) (by omega)) mJ9_max_7cf53 kX6_265 dX6_leftAtWorst_92 rfl rfl rfl (Nat.le_of_ble_eq_true rfl) (by decide) ?_
        rw [eW]
        refine x_istore_n 96 3 _ dX6_leftAtWorst_95 rfl rfl (by decide) rfl rfl ?_
        refine x_iinc 99 _ dX6_leftAtWorst_96 rfl (by decide) rfl rfl rfl ?_
        refine x_goto 25 dX6_leftAtWorst_99 (by decide) ?_
        refine ih (n + 1) _ _ _ (by omega) (by omega) (fun a ha => (up2_o _ _ _ ha).trans (hF a ha)) (fun i hi => ?_)
        rw [up2_i, cntW_t hp]
        by_cases e : i = j
        · subst e
          rw [if_pos rfl, hcj, if_pos hu]
          omega
        · have e2 := ungrp_j hi hj e
          rw [if_neg e, if_neg (by show ¬ whoL (sTry s t n) k = ungrp i; rw [hu]; exact e2)]
          exact hT i hi
      refine x_iload 27 4 dX6_leftAtWorst_25 rfl (by decide) rfl ?_
      refine x_bipush 29 dX6_leftAtWorst_27 rfl (by decide) ?_
      refine x_icmp_gt 102 32 dX6_leftAtWorst_29 (by decide) rfl (by omega) (fun h29 => ?_) (fun h29 => ?_)
      · refine x_iload_n 103 3 dX6_leftAtWorst_102 rfl rfl (by decide) rfl ?_
        refine x_iret dX6_leftAtWorst_103 rfl ⟨rfl, Nat.le_refl _⟩ (qi_i ?_)
        have hn : n = 21 := by omega
        subst hn
        exact ⟨rfl, hF⟩
      · refine x_iload_n 33 1 dX6_leftAtWorst_32 rfl rfl (by decide) rfl ?_
        refine x_iload 35 4 dX6_leftAtWorst_33 rfl (by decide) rfl ?_
        have hn : n < 21 := by omega
        have hb2 := hbit hn
        refine x_ishr 36 ((bitN (stB s t) 21 / 2 ^ n : Nat) : Int) dX6_leftAtWorst_35 rfl (shr_bit (by omega) (by omega)) ?_
        refine x_iconst 37 dX6_leftAtWorst_36 rfl ?_
        refine x_iand 38 ((bitN (stB s t) 21 / 2 ^ n % 2 : Nat) : Int) dX6_leftAtWorst_37 rfl (and_1 (Nat.lt_of_le_of_lt (Nat.div_le_self _ _) (by omega))) ?_
        refine x_iconst 39 dX6_leftAtWorst_38 rfl ?_
        refine x_icmp_ne 96 42 dX6_leftAtWorst_39 (by decide) rfl (by omega) (fun h39 => ?_) (fun h39 => ?_)
        · refine x_iinc 99 _ dX6_leftAtWorst_96 rfl (by decide) rfl rfl rfl ?_
          refine x_goto 25 dX6_leftAtWorst_99 (by decide) ?_
          have hp : ¬ stB s t n = true := fun hp => by (rw [if_pos hp] at hb2; omega)
          rw [← worst_f hp]
          exact ih (n + 1) _ _ _ (by omega) (by omega) hF (fun i hi => by rw [cntW_f hp]; exact hT i hi)
        · refine x_aload_n 43 0 dX6_leftAtWorst_42 rfl rfl (by decide) rfl ?_
          refine x_getR 46 10 26 dX6_leftAtWorst_43 rfl fX6_63 rfl rfl rfl ?_
          refine x_iload 48 4 dX6_leftAtWorst_46 rfl (by decide) rfl ?_
          refine x_bipush 50 dX6_leftAtWorst_48 rfl (by decide) ?_
          refine x_imul 51 dX6_leftAtWorst_50 rfl ?_
          refine x_iload_n 52 2 dX6_leftAtWorst_51 rfl rfl (by decide) rfl ?_
          refine x_iadd 53 dX6_leftAtWorst_52 rfl ?_
          have hi2 := hind hn
          have hin := wkL_in (goV_WF (sTry_WF hO t (v := n) (by omega)) k) 0
          have hnn : vn (goV (sTry s t n) k) = vn (sV s) := goV_n _ _
          refine x_iaload 54 dX6_leftAtWorst_53 rfl rfl (by omega) (fun g53 => ?_)
          rw [hind hn]
          refine x_istore 56 5 _ dX6_leftAtWorst_54 rfl (by decide) rfl rfl ?_
          refine x_iload 58 5 dX6_leftAtWorst_56 rfl (by decide) rfl ?_
          refine x_iconst 59 dX6_leftAtWorst_58 rfl ?_
          refine x_sp 62 [_, _] (c_within _ _ (by omega) (by omega)) mX6_within kX6_70 dX6_leftAtWorst_59 rfl rfl rfl (Nat.le_of_ble_eq_true rfl) (by decide) ?_
          refine x_ifeq_b 70 65 dX6_leftAtWorst_62 (by decide) rfl (fun h62 => ?_) (fun h62 => ?_)
          · refine x_iconst 71 dX6_leftAtWorst_70 rfl ?_
            refine x_istore 73 6 _ dX6_leftAtWorst_71 rfl (by decide) rfl rfl ?_
            exact tail _ _ hn (by by_cases hp : stB s t n = true; exact hp; rw [if_neg hp] at hb2; omega) (by omega) (by unfold whoL ungrp; split <;> split <;> omega)
          · refine x_iload 67 5 dX6_leftAtWorst_65 rfl (by decide) rfl ?_
            refine x_goto 71 dX6_leftAtWorst_67 (by decide) ?_
            refine x_istore 73 6 _ dX6_leftAtWorst_71 rfl (by decide) rfl rfl ?_
            exact tail _ _ hn (by by_cases hp : stB s t n = true; exact hp; rw [if_neg hp] at hb2; omega) (by omega) (by unfold whoL ungrp; split <;> split <;> omega)
  have clear : ∀ (m i : Nat) (M2 : Mem), 6 - i < m → i ≤ 6 → (∀ a, a ≠ 27 → M2 a = M a) → (∀ j : Int, 0 ≤ j ∧ j < i → M2 27 j = 0) → X g tX6_leftAtWorst (kk0 1) 2 [some (rv g 0), some (iv ((bitN (stB s t) 21 : Nat) : Int)), some (iv k), some (iv i), none, none, none] [] (S0, R0, M2) (QI (fun r M3 => r = ((worst s t k 21 : Nat) : Int) ∧ ∀ a, a ≠ 27 → M3 a = M a)) := by
    intro m
    induction m with
    | zero => intro i M2 k1 k2; omega
    | succ m ih =>
      intro i M2 k1 k2 hF hT
      refine x_iload_n 3 3 dX6_leftAtWorst_2 rfl rfl (by decide) rfl ?_
      refine x_iconst 4 dX6_leftAtWorst_3 rfl ?_
      refine x_icmp_gt 20 7 dX6_leftAtWorst_4 (by decide) rfl (by omega) (fun h4 => ?_) (fun h4 => ?_)
      · refine x_iconst 21 dX6_leftAtWorst_20 rfl ?_
        refine x_istore_n 22 3 _ dX6_leftAtWorst_21 rfl rfl (by decide) rfl rfl ?_
        refine x_iconst 23 dX6_leftAtWorst_22 rfl ?_
        refine x_istore 25 4 _ dX6_leftAtWorst_23 rfl (by decide) rfl rfl ?_
        exact main 22 0 M2 _ _ (by omega) (by omega) hF (fun j hj => hT j (by omega))
      · refine x_aload_n 8 0 dX6_leftAtWorst_7 rfl rfl (by decide) rfl ?_
        refine x_getR 11 11 27 dX6_leftAtWorst_8 rfl fX6_66 rfl rfl rfl ?_
        refine x_iload_n 12 3 dX6_leftAtWorst_11 rfl rfl (by decide) rfl ?_
        refine x_iconst 13 dX6_leftAtWorst_12 rfl ?_
        refine x_iastore 14 dX6_leftAtWorst_13 rfl rfl (by omega) (by omega) ?_
        refine x_iinc 17 _ dX6_leftAtWorst_14 rfl (by decide) rfl rfl rfl ?_
        refine x_goto 2 dX6_leftAtWorst_17 (by decide) ?_
        refine ih (i + 1) _ (by omega) (by omega) (fun a ha => (up2_o _ _ _ ha).trans (hF a ha)) (fun j hj => ?_)
        rw [up2_i]
        split
        · rfl
        · exact hT j (by omega)
  refine x_iconst 1 dX6_leftAtWorst_0 rfl ?_
  refine x_istore_n 2 3 _ dX6_leftAtWorst_1 rfl rfl (by decide) rfl rfl ?_
  exact clear 7 0 M (by omega) (by omega) (fun _ _ => rfl) (fun j hj => by omega)
