theorem bitN_bit (p : Nat → Bool) : ∀ (n v : Nat), v < n → bitN p n / 2 ^ v % 2 = if p v then 1 else 0
  | 0, v, h => by omega
  | n + 1, v, h => by
    have hlt := bitN_lt p n
    show (bitN p n + (if p n then 2 ^ n else 0)) / 2 ^ v % 2 = _
    by_cases e : v = n
    · subst e
      by_cases hp : p v = true
      · rw [if_pos hp, if_pos hp, Nat.add_div_right _ (Nat.two_pow_pos v), Nat.div_eq_of_lt hlt]
      · rw [if_neg hp, if_neg hp, Nat.add_zero, Nat.div_eq_of_lt hlt]
    · have ih := bitN_bit p n v (by omega)
      by_cases hp : p n = true
      · rw [if_pos hp]
        have e2 : 2 ^ n = 2 ^ v * (2 * 2 ^ (n - v - 1)) := by
          rw [← Nat.mul_assoc, Nat.mul_comm (2 ^ v) 2, ← Nat.pow_succ', ← Nat.pow_add]
          congr 1; omega
        rw [e2, Nat.add_mul_div_left _ _ (Nat.two_pow_pos v), Nat.add_mul_mod_self_left]
        exact ih
      · rw [if_neg hp, Nat.add_zero]; exact ih
theorem bsum_hi {x n : Nat} (h : x < 2 ^ n) : ∀ k, bsum x (n + k) = bsum x n
  | 0 => rfl
  | k + 1 => by
    show bsum x (n + k) + x / 2 ^ (n + k) % 2 = _
    rw [bsum_hi h k, Nat.div_eq_of_lt (Nat.lt_of_lt_of_le h (Nat.pow_le_pow_right (by omega) (by omega)))]
    rfl
theorem bsum_le (x : Nat) : ∀ n, bsum x n ≤ n
  | 0 => Nat.le_refl _
  | n + 1 => by
    have := bsum_le x n
    show bsum x n + x / 2 ^ n % 2 ≤ n + 1
    omega
def cntW (p : Nat → Bool) (w : Nat → Int) (x : Int) : Nat → Nat
  | 0 => 0
  | n + 1 => cntW p w x n + (if p n = true ∧ w n = x then 1 else 0)
def mx6 (f : Int → Nat) : Nat := max (f 0) (max (f 1) (max (f 2) (max (f 3) (max (f 4) (f 9)))))
theorem cntW_le (p : Nat → Bool) (w : Nat → Int) (x : Int) : ∀ n, cntW p w x n ≤ n
  | 0 => Nat.le_refl _
  | n + 1 => by
    have := cntW_le p w x n
    show cntW p w x n + _ ≤ n + 1
    split <;> omega
def sTry (s : ST) (t : Int) (v : Nat) : LV := setS (sV s) (fu (vS (sV s)) t v)
/-- how many are left at the worst by a look at week k -/
def worst (s : ST) (t : Int) (k n : Nat) : Nat := mx6 (fun x => cntW (stB s t) (fun v => whoL (sTry s t v) k) x n)
def askB (s : ST) (t : Int) : Nat → Int × Int
  | 0 => (-4, (bsum (bitN (stB s t) 21) 21 : Nat))
  | k + 1 => off (askB s t k) k (worst s t k 21 : Nat)
def aAsk (s : ST) (t w : Int) : Int := if (0 ≤ t ∧ t < vn (sV s)) ∧ (0 ≤ w ∧ w ≤ 1) then ansB (askB s t 21) w else -1
theorem sTry_WF {s : ST} (hO : SOK s) (t : Int) {v : Nat} (hv : v ≤ 20) : WF (sTry s t v) := setS_WF hO.1 t v (by omega)
/-- group of the tally -/
def grp (x : Int) : Int := if 0 ≤ x ∧ x ≤ 4 then x else 5
def ungrp (j : Int) : Int := if j = 5 then 9 else j
theorem whoL_in {v : LV} (h : WF v) (k : Nat) : whoL v k = 9 ∨ (0 ≤ whoL v k ∧ whoL v k ≤ 4) := by
  have h1 := wkL_in (goV_WF h k) 0
  have h2 := (goV_WF h k).1
  unfold whoL
  split <;> omega
theorem mx6_s {f f2 : Int → Nat} {x : Int} (hx : x = 0 ∨ x = 1 ∨ x = 2 ∨ x = 3 ∨ x = 4 ∨ x = 9) (h : ∀ y, f2 y = f y + (if x = y then 1 else 0)) : mx6 f2 = max (mx6 f) (f x + 1) := by
  unfold mx6
  rw [h 0, h 1, h 2, h 3, h 4, h 9]
  rcases hx with rfl | rfl | rfl | rfl | rfl | rfl <;> simp <;> omega

set_option maxHeartbeats 4000000 in
theorem c_noteOutcomes {g : GG} {M : Mem} {s : ST} (hC : Cls M s) (hO : SOK s) (t : Int) (ht0 : 0 ≤ t ∧ t < vn (sV s)) : CV g tX6_noteOutcomes 5 [rv g 0, iv t] M (fun M3 => SF M M3 ∧ ∀ v k : Nat, v < 21 → k < 21 → M3 26 (21 * (v : Int) + k) = wkL (goV (sTry s t v) k) 0) := by
  refine Con.of [some (rv g 0), some (iv t), none, none] (by decide +kernel) rfl (Nat.le_of_ble_eq_true rfl) ?_
  obtain ⟨hV, ⟨hk0, hk1, hi0, hi1⟩, ⟨hT1, hT2⟩, ⟨hS1, hS2⟩, hZ, hN, hF⟩ := id hC
  obtain ⟨oV, oW, oI0, oI1, oT, oTb, oS, oSb, oZ⟩ := id hO
  obtain ⟨e6, e7, e8, e4, e5⟩ := id hV
  have o1 := oV.1
  have o2 := oV.2.1
  have o3 := oV.2.2.1
  have inner : ∀ (v : Nat), v < 21 → ∀ (m k : Nat) (M2 : Mem), 21 - k < m → k ≤ 21 → SF M M2 → Rep M2 11 (goV (sTry s t v) k) → (∀ a c : Nat, a < 21 → c < 21 → (a < v ∨ (a = v ∧ c < k)) → M2 26 (21 * (a : Int) + c) = wkL (goV (sTry s t a) c) 0) → (∀ (M3 : Mem) (jk : Option Value), SF M M3 → (∀ a c : Nat, a < 21 → c < 21 → a < v + 1 → M3 26 (21 * (a : Int) + c) = wkL (goV (sTry s t a) c) 0) → X g tX6_noteOutcomes (kk0 5) 2 [some (rv g 0), some (iv t), some (iv (v + 1 : Nat)), jk] [] (S0, R0, M3) (QV (fun M3 => SF M M3 ∧ ∀ v k : Nat, v < 21 → k < 21 → M3 26 (21 * (v : Int) + k) = wkL (goV (sTry s t v) k) 0))) → X g tX6_noteOutcomes (kk0 5) 16 [some (rv g 0), some (iv t), some (iv v), some (iv k)] [] (S0, R0, M2) (QV (fun M3 => SF M M3 ∧ ∀ v k : Nat, v < 21 → k < 21 → M3 26 (21 * (v : Int) + k) = wkL (goV (sTry s t v) k) 0)) := by
    intro v hv m
    induction m with
    | zero => intro k M2 k1 k2; omega
    | succ m ih =>
      intro k M2 k1 k2 hSF hR2 hno hK
      have hwf : WF (goV (sTry s t v) k) := goV_WF (sTry_WF hO t (by omega)) k
      have hww : vw (goV (sTry s t v) k) = vw (sV s) + k := goV_w (sTry s t v) k
      have hin := wkL_in hwf 0
      have hnn := hwf.1
      refine x_iload_n 17 3 dX6_noteOutcomes_16 rfl rfl (by decide) rfl ?_
      refine x_bipush 19 dX6_noteOutcomes_17 rfl (by decide) ?_
      refine x_icmp_ge 47 22 dX6_noteOutcomes_19 (by decide) rfl (by omega) (fun h19 => ?_) (fun h19 => ?_)
      · refine x_iinc 50 _ dX6_noteOutcomes_47 rfl (by decide) rfl rfl rfl ?_
        refine x_goto 2 dX6_noteOutcomes_50 (by decide) ?_
        exact hK _ _ hSF (fun a c ha hc h => hno a c ha hc (by omega))
      · refine x_aload_n 23 0 dX6_noteOutcomes_22 rfl rfl (by decide) rfl ?_
        refine x_getR 26 10 26 dX6_noteOutcomes_23 rfl fX6_63 rfl rfl rfl ?_
        refine x_iload_n 27 2 dX6_noteOutcomes_26 rfl rfl (by decide) rfl ?_
        refine x_bipush 29 dX6_noteOutcomes_27 rfl (by decide) ?_
        refine x_imul 30 dX6_noteOutcomes_29 rfl ?_
        refine x_iload_n 31 3 dX6_noteOutcomes_30 rfl rfl (by decide) rfl ?_
        refine x_iadd 32 dX6_noteOutcomes_31 rfl ?_
        refine x_aload_n 33 0 dX6_noteOutcomes_32 rfl rfl (by decide) rfl ?_
        refine x_getR 36 3 11 dX6_noteOutcomes_33 rfl fX6_28 rfl rfl rfl ?_
        refine x_iconst 37 dX6_noteOutcomes_36 rfl ?_
        refine x_vi 40 [_] (c_runWeek (o := 11) (Or.inr (Or.inl rfl)) hR2 hwf (by omega) 0 (Or.inl rfl)) mX1_runWeek kX6_169 dX6_noteOutcomes_37 rfl rfl ⟨by decide, rfl⟩ rfl rfl (Nat.le_of_ble_eq_true rfl) (by decide) (fun r3 M3 q3 => ?_)
        obtain ⟨rfl, hR3, hF3⟩ := q3
        refine x_iastore 41 dX6_noteOutcomes_40 rfl rfl (by omega) (by omega) ?_
        refine x_iinc 44 _ dX6_noteOutcomes_41 rfl (by decide) rfl rfl rfl ?_
        refine x_goto 16 dX6_noteOutcomes_44 (by decide) ?_
        refine ih (k + 1) _ (by omega) (by omega) ((hSF.tr (SF.of hF3)).up _ _ _ (by unfold Scr; omega)) (hR3.keep (fun a x y => up2_o _ _ _ (by omega))) (fun a c ha hc h => ?_) hK
        rw [up2_i, hF3 26 (by omega)]
        by_cases e : a = v ∧ c = k
        · obtain ⟨rfl, rfl⟩ := e
          rw [if_pos (by omega)]
        · rw [if_neg (by omega)]; exact hno a c ha hc (by omega)
  have outer : ∀ (m v : Nat) (M2 : Mem) (jk : Option Value), 21 - v < m → v ≤ 21 → SF M M2 → (∀ a c : Nat, a < 21 → c < 21 → a < v → M2 26 (21 * (a : Int) + c) = wkL (goV (sTry s t a) c) 0) → X g tX6_noteOutcomes (kk0 5) 2 [some (rv g 0), some (iv t), some (iv v), jk] [] (S0, R0, M2) (QV (fun M3 => SF M M3 ∧ ∀ v k : Nat, v < 21 → k < 21 → M3 26 (21 * (v : Int) + k) = wkL (goV (sTry s t v) k) 0)) := by
    intro m
    induction m with
    | zero => intro v M2 jk k1 k2; omega
    | succ m ih =>
      intro v M2 jk k1 k2 hSF hno
      have hV2 := hSF.R4 hV
      refine x_iload_n 3 2 dX6_noteOutcomes_2 rfl rfl (by decide) rfl ?_
      refine x_bipush 5 dX6_noteOutcomes_3 rfl (by decide) ?_
      refine x_icmp_gt 53 8 dX6_noteOutcomes_5 (by decide) rfl (by omega) (fun h5 => ?_) (fun h5 => ?_)
      · refine x_vret dX6_noteOutcomes_53 rfl ⟨rfl, Nat.le_refl _⟩ (qv_i ?_)
        have hv : v = 21 := by omega
        subst hv
        exact ⟨hSF, fun a c ha hc => hno a c ha hc ha⟩
      · refine x_aload_n 9 0 dX6_noteOutcomes_8 rfl rfl (by decide) rfl ?_
        refine x_iload_n 10 1 dX6_noteOutcomes_9 rfl rfl (by decide) rfl ?_
        refine x_iload_n 11 2 dX6_noteOutcomes_10 rfl rfl (by decide) rfl ?_
        refine x_vv 14 [_, _] (c_tryStrength hV2 oV oW t v ht0 (by omega)) mX6_tryStrength kX6_211 dX6_noteOutcomes_11 rfl rfl ⟨by decide, rfl⟩ rfl rfl (Nat.le_of_ble_eq_true rfl) (by decide) (fun M3 q3 => ?_)
        obtain ⟨hR3, hF3⟩ := q3
        refine x_iconst 15 dX6_noteOutcomes_14 rfl ?_
        refine x_istore_n 16 3 _ dX6_noteOutcomes_15 rfl rfl (by decide) rfl rfl ?_
        exact inner v (by omega) 22 0 _ (by omega) (by omega) (hSF.tr (SF.of hF3)) hR3 (fun a c ha hc h => by rw [hF3 26 (by omega)]; exact hno a c ha hc (by omega)) (fun M4 jk h1 h2 => ih (v + 1) M4 jk (by omega) (by omega) h1 h2)
  refine x_iconst 1 dX6_noteOutcomes_0 rfl ?_
  refine x_istore_n 2 2 _ dX6_noteOutcomes_1 rfl rfl (by decide) rfl rfl ?_
  exact outer 22 0 M _ (by omega) (by omega) (SF.rf M) (fun a c ha hc h => by omega)
