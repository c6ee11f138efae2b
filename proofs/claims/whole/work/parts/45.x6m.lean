set_option maxHeartbeats 4000000 in
theorem c_power {g : GG} {M : Mem} (b : Int) (n : Nat) (hb : 0 ≤ b ∧ b ≤ 10) (hn : n ≤ 21) : CJ g tX6_power 0 [iv b, iv n] M (b ^ n) := by
  refine Con.of [some (iv b), some (iv n), none, none, none] (by decide +kernel) rfl (Nat.le_of_ble_eq_true rfl) ?_
  have loop : ∀ (m i : Nat), n - i < m → i ≤ n → X g tX6_power (kk0 0) 5 [some (iv b), some (iv n), some (jv (b ^ i)), none, some (iv i)] [] (S0, R0, M) (QJ M (b ^ n)) := by
    intro m
    induction m with
    | zero => intro i k1 k2; omega
    | succ m ih =>
      intro i k1 k2
      refine x_iload 7 4 dX6_power_5 rfl (by decide) rfl ?_
      refine x_iload_n 8 1 dX6_power_7 rfl rfl (by decide) rfl ?_
      refine x_icmp_ge 22 11 dX6_power_8 (by decide) rfl (by omega) (fun h8 => ?_) (fun h8 => ?_)
      · refine x_lload_n 23 2 dX6_power_22 rfl rfl (by decide) rfl ?_
        refine x_lret dX6_power_23 rfl ⟨rfl, Nat.le_refl _⟩ (qj_i ?_ rfl)
        have e : i = n := by omega
        rw [e]
      · refine x_lload_n 12 2 dX6_power_11 rfl rfl (by decide) rfl ?_
        refine x_iload_n 13 0 dX6_power_12 rfl rfl (by decide) rfl ?_
        refine x_i2l 14 dX6_power_13 rfl (by omega) ?_
        refine x_lmul 15 dX6_power_14 rfl ?_
        rw [← Int.pow_succ]
        refine x_lstore_n 16 2 _ dX6_power_15 rfl rfl (by decide) rfl rfl ?_
        refine x_iinc 19 _ dX6_power_16 rfl (by decide) rfl rfl rfl ?_
        refine x_goto 5 dX6_power_19 (by decide) ?_
        exact ih (i + 1) (by omega) (by omega)
  refine x_lconst 1 dX6_power_0 rfl 1 rfl ?_
  refine x_lstore_n 2 2 _ dX6_power_1 rfl rfl (by decide) rfl rfl ?_
  refine x_iconst 3 dX6_power_2 rfl ?_
  refine x_istore 5 4 _ dX6_power_3 rfl (by decide) rfl rfl ?_
  have e0 := loop (n + 1) 0 (by omega) (by omega)
  rw [Int.pow_zero] at e0
  exact e0

def wgt (v : Int) (n rain : Nat) : Int := v ^ bsum rain n * (10 - v) ^ (n - bsum rain n)
theorem euc_lt {g l : Nat} (hl : 0 < l) (h : l ≤ g) : 2 * (g % l) ≤ g := by
  have h1 := Nat.mod_lt g hl
  have h2 := Nat.div_add_mod g l
  have h3 : 1 ≤ g / l := (Nat.one_le_div_iff hl).mpr h
  have h4 : l * 1 ≤ l * (g / l) := Nat.mul_le_mul_left l h3
  omega
theorem euc_st {g l i B : Nat} (hl : 0 < l) (h : l ≤ g) (hB : g * l * 2 ^ i ≤ B) : l * (g % l) * 2 ^ (i + 1) ≤ B := by
  have h1 := euc_lt hl h
  have h2 : l * (2 * (g % l)) ≤ l * g := Nat.mul_le_mul_left l h1
  have h3 : l * (2 * (g % l)) * 2 ^ i ≤ l * g * 2 ^ i := Nat.mul_le_mul_right _ h2
  have e : l * (g % l) * 2 ^ (i + 1) = l * (2 * (g % l)) * 2 ^ i := by
    rw [Nat.pow_succ, Nat.mul_comm (2 ^ i) 2, ← Nat.mul_assoc, Nat.mul_assoc l (g % l) 2, Nat.mul_comm (g % l) 2]
  rw [e]
  rw [Nat.mul_comm l g] at h3
  omega
theorem gcd_st (g l : Nat) : Nat.gcd l (g % l) = Nat.gcd g l := by
  rw [Nat.gcd_comm g l, Nat.gcd_rec l g, Nat.gcd_comm (g % l) l]

set_option maxHeartbeats 4000000 in
theorem c_weight {g : GG} {M : Mem} (v : Int) (n rain : Nat) (hv : 0 ≤ v ∧ v ≤ 10) (hn : n ≤ 21) (hr : rain < 2 ^ n) : CJ g tX6_weight 1 [iv v, iv n, iv rain] M (wgt v n rain) := by
  refine Con.of [some (iv v), some (iv n), some (iv rain), none] (by decide +kernel) rfl (Nat.le_of_ble_eq_true rfl) ?_
  have hbs : bsum rain 24 = bsum rain n := by
    have e := bsum_hi hr (24 - n)
    rw [show n + (24 - n) = 24 by omega] at e
    exact e
  have hbl := bsum_le rain n
  have h21 : 2 ^ n ≤ 2 ^ 21 := Nat.pow_le_pow_right (by omega) hn
  have h21 : 2 ^ n ≤ 2097152 := h21
  refine x_iload_n 1 2 dX6_weight_0 rfl rfl (by decide) rfl ?_
  refine x_sp 4 [_] (c_bitCount rain (by omega)) mJ6_bitCount_0f7a4 kX6_235 dX6_weight_1 rfl rfl rfl (Nat.le_of_ble_eq_true rfl) (by decide) ?_
  rw [hbs]
  refine x_istore_n 5 3 _ dX6_weight_4 rfl rfl (by decide) rfl rfl ?_
  refine x_iload_n 6 0 dX6_weight_5 rfl rfl (by decide) rfl ?_
  refine x_iload_n 7 3 dX6_weight_6 rfl rfl (by decide) rfl ?_
  refine x_sj 10 [_, _] (c_power v (bsum rain n) hv (by omega)) mX6_power kX6_227 dX6_weight_7 rfl rfl rfl (Nat.le_of_ble_eq_true rfl) (by decide) ?_
  refine x_bipush 12 dX6_weight_10 rfl (by decide) ?_
  refine x_iload_n 13 0 dX6_weight_12 rfl rfl (by decide) rfl ?_
  refine x_isub 14 dX6_weight_13 rfl ?_
  refine x_iload_n 15 1 dX6_weight_14 rfl rfl (by decide) rfl ?_
  refine x_iload_n 16 3 dX6_weight_15 rfl rfl (by decide) rfl ?_
  refine x_isub 17 dX6_weight_16 rfl ?_
  rw [show (n : Int) - (bsum rain n : Nat) = ((n - bsum rain n : Nat) : Int) by omega]
  refine x_sj 20 [_, _] (c_power (10 - v) (n - bsum rain n) (by omega) (by omega)) mX6_power kX6_227 dX6_weight_17 rfl rfl rfl (Nat.le_of_ble_eq_true rfl) (by decide) ?_
  refine x_lmul 21 dX6_weight_20 rfl ?_
  refine x_lret dX6_weight_21 rfl ⟨rfl, Nat.le_refl _⟩ (qj_i ?_ rfl)
  rfl

set_option maxHeartbeats 4000000 in
theorem c_lmax {g : GG} {M : Mem} (a b : Int) (ha : -9223372036854775808 ≤ a ∧ a ≤ 9223372036854775807) (hb : -9223372036854775808 ≤ b ∧ b ≤ 9223372036854775807) : CJ g tJ9_max_f86c9 0 [jv a, jv b] M (max a b) := by
  refine Con.ofF [some (jv a), none, some (jv b), none] (by decide +kernel) rfl (Nat.le_of_ble_eq_true rfl) ?_
  refine x_lload_n 1 0 dJ9_max_f86c9_0 rfl rfl (by decide) rfl ?_
  refine x_lload_n 2 2 dJ9_max_f86c9_1 rfl rfl (by decide) rfl ?_
  refine x_lcmp 3 dJ9_max_f86c9_2 rfl (by omega) (fun c2 hc2 => ?_)
  refine x_if_lt 10 6 dJ9_max_f86c9_3 (by decide) rfl (by omega) (fun h3 => ?_) (fun h3 => ?_)
  · refine x_lload_n 11 2 dJ9_max_f86c9_10 rfl rfl (by decide) rfl ?_
    refine x_lret dJ9_max_f86c9_11 rfl ⟨rfl, Nat.le_refl _⟩ (qj_i ?_ rfl)
    omega
  · refine x_lload_n 7 0 dJ9_max_f86c9_6 rfl rfl (by decide) rfl ?_
    refine x_goto 11 dJ9_max_f86c9_7 (by decide) ?_
    refine x_lret dJ9_max_f86c9_11 rfl ⟨rfl, Nat.le_refl _⟩ (qj_i ?_ rfl)
    omega

set_option maxHeartbeats 4000000 in
theorem c_gcd {g : GG} {M : Mem} (a b : Nat) (ha : a ≤ 9223372036854775807) (hb : b ≤ 9223372036854775807) (hab : a * b < 633825300114114700748351602688) : CJ g tX6_commonDivisor 1 [jv a, jv b] M ((max 1 (Nat.gcd a b) : Nat) : Int) := by
  refine Con.of [some (jv a), none, some (jv b), none, none, none, none, none, none, none, none] (by decide +kernel) rfl (Nat.le_of_ble_eq_true rfl) ?_
  have loop : ∀ (m i x y : Nat) (j9 : Option Value), 100 - i < m → i ≤ 100 → x ≤ 9223372036854775807 → y ≤ 9223372036854775807 → Nat.gcd x y = Nat.gcd a b → ((i = 0 ∧ x * y ≤ a * b) ∨ (0 < i ∧ y ≤ x ∧ x * y * 2 ^ (i - 1) ≤ a * b)) → X g tX6_commonDivisor (kk0 1) 9 [some (jv a), none, some (jv b), none, some (jv x), none, some (jv y), none, some (iv i), j9, none] [] (S0, R0, M) (QJ M ((max 1 (Nat.gcd a b) : Nat) : Int)) := by
    intro m
    induction m with
    | zero => intro i x y j9 k1 k2; omega
    | succ m ih =>
      intro i x y j9 k1 k2 hx hy hg hI
      have done : y = 0 → max 1 (x : Int) = ((max 1 (Nat.gcd a b) : Nat) : Int) := fun e => by
        rw [← hg, e, Nat.gcd_zero_right]; omega
      have last : 100 ≤ i → y = 0 := fun h => by
        have e : i = 100 := by omega
        rw [e] at hI
        rcases hI with ⟨h0, _⟩ | ⟨_, h1, h2⟩
        · omega
        · rcases Nat.eq_zero_or_pos y with z | z
          · exact z
          · have h3 : 1 ≤ x * y := Nat.mul_pos (by omega) z
            have h4 : 1 * 2 ^ (100 - 1) ≤ x * y * 2 ^ (100 - 1) := Nat.mul_le_mul_right _ h3
            have h5 : 1 * 2 ^ (100 - 1) = 633825300114114700748351602688 := by decide
            omega
      refine x_iload 11 8 dX6_commonDivisor_9 rfl (by decide) rfl ?_
      refine x_bipush 13 dX6_commonDivisor_11 rfl (by decide) ?_
      refine x_icmp_ge 44 16 dX6_commonDivisor_13 (by decide) rfl (by omega) (fun h13 => ?_) (fun h13 => ?_)
      · have y0 : y = 0 := by omega
        refine x_lconst 45 dX6_commonDivisor_44 rfl 1 rfl ?_
        refine x_lload 47 4 dX6_commonDivisor_45 rfl (by decide) rfl ?_
        refine x_sj 50 [_, _] (c_lmax 1 x (by omega) (by omega)) mJ9_max_f86c9 kX6_244 dX6_commonDivisor_47 rfl rfl rfl (Nat.le_of_ble_eq_true rfl) (by decide) ?_
        refine x_lret dX6_commonDivisor_50 rfl ⟨rfl, Nat.le_refl _⟩ (qj_i ?_ rfl)
        exact done (by omega)
      · refine x_lload 18 6 dX6_commonDivisor_16 rfl (by decide) rfl ?_
        refine x_lconst 19 dX6_commonDivisor_18 rfl 0 rfl ?_
        refine x_lcmp 20 dX6_commonDivisor_19 rfl (by omega) (fun c19 hc19 => ?_)
        refine x_if_eq 44 23 dX6_commonDivisor_20 (by decide) rfl (by omega) (fun h20 => ?_) (fun h20 => ?_)
        · have y0 : y = 0 := by omega
          refine x_lconst 45 dX6_commonDivisor_44 rfl 1 rfl ?_
          refine x_lload 47 4 dX6_commonDivisor_45 rfl (by decide) rfl ?_
          refine x_sj 50 [_, _] (c_lmax 1 x (by omega) (by omega)) mJ9_max_f86c9 kX6_244 dX6_commonDivisor_47 rfl rfl rfl (Nat.le_of_ble_eq_true rfl) (by decide) ?_
          refine x_lret dX6_commonDivisor_50 rfl ⟨rfl, Nat.le_refl _⟩ (qj_i ?_ rfl)
          exact done (by omega)
        · refine x_lload 25 4 dX6_commonDivisor_23 rfl (by decide) rfl ?_
          refine x_lload 27 6 dX6_commonDivisor_25 rfl (by decide) rfl ?_
          refine x_lrem 28 dX6_commonDivisor_27 rfl (by omega) ?_
          refine x_lstore 30 9 _ dX6_commonDivisor_28 rfl (by decide) rfl rfl ?_
          refine x_lload 32 6 dX6_commonDivisor_30 rfl (by decide) rfl ?_
          refine x_lstore 34 4 _ dX6_commonDivisor_32 rfl (by decide) rfl rfl ?_
          refine x_lload 36 9 dX6_commonDivisor_34 rfl (by decide) rfl ?_
          refine x_lstore 38 6 _ dX6_commonDivisor_36 rfl (by decide) rfl rfl ?_
          refine x_iinc 41 _ dX6_commonDivisor_38 rfl (by decide) rfl rfl rfl ?_
          refine x_goto 9 dX6_commonDivisor_41 (by decide) ?_
          rw [show (x : Int) % (y : Int) = ((x % y : Nat) : Int) from rfl]
          have hy0 : 0 < y := by omega
          have hm := Nat.mod_lt x hy0
          refine ih (i + 1) y (x % y) _ (by omega) (by omega) (by omega) (by omega) ((gcd_st x y).trans hg) (Or.inr ⟨by omega, by omega, ?_⟩)
          rcases hI with ⟨h0, h1⟩ | ⟨h0, h1, h2⟩
          · rw [h0]
            have h6 : y * (x % y) ≤ y * x := Nat.mul_le_mul_left y (Nat.mod_le x y)
            rw [Nat.mul_comm y x] at h6
            show y * (x % y) * 2 ^ 0 ≤ a * b
            omega
          · have h7 := euc_st hy0 h1 h2
            rw [show i - 1 + 1 = i + 1 - 1 by omega] at h7
            exact h7
  refine x_lload_n 1 0 dX6_commonDivisor_0 rfl rfl (by decide) rfl ?_
  refine x_lstore 3 4 _ dX6_commonDivisor_1 rfl (by decide) rfl rfl ?_
  refine x_lload_n 4 2 dX6_commonDivisor_3 rfl rfl (by decide) rfl ?_
  refine x_lstore 6 6 _ dX6_commonDivisor_4 rfl (by decide) rfl rfl ?_
  refine x_iconst 7 dX6_commonDivisor_6 rfl ?_
  refine x_istore 9 8 _ dX6_commonDivisor_7 rfl (by decide) rfl rfl ?_
  exact loop 101 0 a b _ (by omega) (by omega) ha hb rfl (Or.inl ⟨rfl, Nat.le_refl _⟩)

def low (a b : Nat) (w : Int) : Int := (if w = 0 then (a : Int) else (b : Int)) / ((max 1 (Nat.gcd a b) : Nat) : Int)

set_option maxHeartbeats 4000000 in
theorem c_lowest {g : GG} {M : Mem} (a b : Nat) (w : Int) (hw : 0 ≤ w ∧ w ≤ 1) (ha : a ≤ 9223372036854775807) (hb : b ≤ 9223372036854775807) (hb0 : 0 < b) (hab : a * b < 633825300114114700748351602688) : CJ g tX6_lowest 2 [jv a, jv b, iv w] M (low a b w) := by
  refine Con.of [some (jv a), none, some (jv b), none, some (iv w), none, none] (by decide +kernel) rfl (Nat.le_of_ble_eq_true rfl) ?_
  have hg : Nat.gcd a b ≤ b := Nat.gcd_le_right a hb0
  refine x_lload_n 1 0 dX6_lowest_0 rfl rfl (by decide) rfl ?_
  refine x_lload_n 2 2 dX6_lowest_1 rfl rfl (by decide) rfl ?_
  refine x_sj 5 [_, _] (c_gcd a b ha hb hab) mX6_commonDivisor kX6_240 dX6_lowest_2 rfl rfl rfl (Nat.le_of_ble_eq_true rfl) (by decide) ?_
  refine x_lstore 7 5 _ dX6_lowest_5 rfl (by decide) rfl rfl ?_
  refine x_iload 9 4 dX6_lowest_7 rfl (by decide) rfl ?_
  refine x_if_ne 16 12 dX6_lowest_9 (by decide) rfl (by omega) (fun h9 => ?_) (fun h9 => ?_)
  · refine x_lload_n 17 2 dX6_lowest_16 rfl rfl (by decide) rfl ?_
    refine x_lload 19 5 dX6_lowest_17 rfl (by decide) rfl ?_
    refine x_ldiv 20 dX6_lowest_19 rfl (by omega) ?_
    refine x_lret dX6_lowest_20 rfl ⟨rfl, Nat.le_refl _⟩ (qj_i ?_ rfl)
    unfold low; first | rw [if_pos (by omega)] | rw [if_neg (by omega)]
  · refine x_lload_n 13 0 dX6_lowest_12 rfl rfl (by decide) rfl ?_
    refine x_goto 17 dX6_lowest_13 (by decide) ?_
    refine x_lload 19 5 dX6_lowest_17 rfl (by decide) rfl ?_
    refine x_ldiv 20 dX6_lowest_19 rfl (by omega) ?_
    refine x_lret dX6_lowest_20 rfl ⟨rfl, Nat.le_refl _⟩ (qj_i ?_ rfl)
    unfold low; first | rw [if_pos (by omega)] | rw [if_neg (by omega)]
