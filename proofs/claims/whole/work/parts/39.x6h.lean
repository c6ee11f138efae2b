theorem anyN_cong {p q : Nat → Bool} : ∀ n, (∀ k, k < n → p k = q k) → anyN p n = anyN q n
  | 0, _ => rfl
  | n + 1, h => by
    show (anyN p n || p n) = (anyN q n || q n)
    rw [anyN_cong n (fun k hk => h k (by omega)), h n (by omega)]
theorem fitV_cong {n : Nat} {a a2 b b2 : Int → Int} (ha : ∀ i : Nat, i < n → a i = a2 i) (hb : ∀ i : Nat, i < n → b i = b2 i) (v : LV) : fitV n a b v = fitV n a2 b2 v := by
  unfold fitV
  rw [anyN_cong 21 (fun k _ => ?_)]
  show (!fitsB n a b k (whoL v k)) = !fitsB n a2 b2 k (whoL v k)
  unfold fitsB
  rw [anyN_cong n (fun i hi => by rw [ha i hi, hb i hi])]
def knB (s : ST) (t : Int) (k : Nat) : Bool := fitV (sc s).toNat (sw s) (sl s) (setK (sV s) (fu (vK (sV s)) t k))
def stB (s : ST) (t : Int) (k : Nat) : Bool := fitV (sc s).toNat (sw s) (sl s) (setS (sV s) (fu (vS (sV s)) t k))
def aKinds (s : ST) (t : Int) : Int := if 0 ≤ t ∧ t < vn (sV s) then (bitN (knB s t) 4 : Int) else -1
def aStrengths (s : ST) (t : Int) : Int := if 0 ≤ t ∧ t < vn (sV s) then (bitN (stB s t) 21 : Int) else -1

set_option maxHeartbeats 4000000 in
theorem p_kinds {g : GG} {M : Mem} {s : ST} (hC : Cls M s) (hO : SOK s) (t : Int) (ht : -2147483648 ≤ t ∧ t ≤ 2147483647) : CI g tX6_kinds 6 [rv g 0, iv t] M (PC M (aKinds s t) s) := by
  refine Con.of [some (rv g 0), some (iv t), none, none] (by decide +kernel) rfl (Nat.le_of_ble_eq_true rfl) ?_
  obtain ⟨hV, ⟨hk0, hk1, hi0, hi1⟩, ⟨hT1, hT2⟩, ⟨hS1, hS2⟩, hZ, hN, hF⟩ := id hC
  obtain ⟨oV, oW, oI0, oI1, oT, oTb, oS, oSb, oZ⟩ := id hO
  obtain ⟨e6, e7, e8, e4, e5⟩ := id hV
  have o1 := oV.1
  have o2 := oV.2.1
  have o3 := oV.2.2.1
  refine x_aload_n 1 0 dX6_kinds_0 rfl rfl (by decide) rfl ?_
  refine x_getR 4 2 4 dX6_kinds_1 rfl fX6_24 rfl rfl rfl ?_
  refine x_iload_n 5 1 dX6_kinds_4 rfl rfl (by decide) rfl ?_
  refine x_vp 8 [_] (c_hasTown (o := 4) (Or.inl rfl) t ht) mX1_hasTown kX6_120 dX6_kinds_5 rfl rfl ⟨by decide, rfl⟩ rfl rfl (Nat.le_of_ble_eq_true rfl) (by decide) ?_
  refine x_ifne_b 13 11 dX6_kinds_8 (by decide) rfl (fun h8 => ?_) (fun h8 => ?_)
  · have ht2 : 0 ≤ t ∧ t < vn (sV s) := by omega
    have loop : ∀ (m k : Nat) (M2 : Mem), 4 - k < m → k ≤ 4 → SF M M2 → X g tX6_kinds (kk0 6) 17 [some (rv g 0), some (iv t), some (iv (bitN (knB s t) k)), some (iv k)] [] (S0, R0, M2) (QI (PC M (aKinds s t) s)) := by
      intro m
      induction m with
      | zero => intro k M2 k1 k2; omega
      | succ m ih =>
        intro k M2 k1 k2 hSF
        have hV2 := hSF.R4 hV
        have hbn := bitN_lt (knB s t) k
        have hp2 : 2 ^ k ≤ 2 ^ 21 := Nat.pow_le_pow_right (by omega) (by omega)
        have hstep : bitN (knB s t) (k + 1) = bitN (knB s t) k + (if knB s t k then 2 ^ k else 0) := rfl
        refine x_iload_n 18 3 dX6_kinds_17 rfl rfl (by decide) rfl ?_
        refine x_iconst 19 dX6_kinds_18 rfl ?_
        refine x_icmp_ge 54 22 dX6_kinds_19 (by decide) rfl (by omega) (fun h19 => ?_) (fun h19 => ?_)
        · refine x_iload_n 55 2 dX6_kinds_54 rfl rfl (by decide) rfl ?_
          refine x_iret dX6_kinds_55 rfl ⟨rfl, Nat.le_refl _⟩ (qi_i ?_)
          have hk : k = 4 := by omega
          subst hk
          refine PC.scr hC ?_ hSF
          unfold aKinds; rw [if_pos ht2]
        · refine x_aload_n 23 0 dX6_kinds_22 rfl rfl (by decide) rfl ?_
          refine x_iload_n 24 1 dX6_kinds_23 rfl rfl (by decide) rfl ?_
          refine x_iload_n 25 3 dX6_kinds_24 rfl rfl (by decide) rfl ?_
          refine x_vv 28 [_, _] (c_tryKind hV2 oV oW t k ht2 (by omega)) mX6_tryKind kX6_214 dX6_kinds_25 rfl rfl ⟨by decide, rfl⟩ rfl rfl (Nat.le_of_ble_eq_true rfl) (by decide) (fun M3 q3 => ?_)
          obtain ⟨hR3, hF3⟩ := q3
          have hwf : WF (setK (sV s) (fu (vK (sV s)) t k)) := setK_WF oV t k (by omega)
          refine x_aload_n 29 0 dX6_kinds_28 rfl rfl (by decide) rfl ?_
          refine x_getR 32 7 21 dX6_kinds_29 rfl fX6_48 rfl rfl rfl ?_
          refine x_aload_n 33 0 dX6_kinds_32 rfl rfl (by decide) rfl ?_
          refine x_getR 36 3 11 dX6_kinds_33 rfl fX6_28 rfl rfl rfl ?_
          refine x_vi 39 [_] (by have z := c_fit (g := g) (o := 11) (Or.inr (Or.inl rfl)) hR3 hwf (by show vw (sV s) ≤ 10000; omega) (sc s).toNat (by rw [hF3 21 (by omega), hSF 21 (by unfold Scr; omega)]; omega) (by omega); rw [fitV_cong (a2 := sw s) (b2 := sl s) (fun i hi => by rw [hF3 22 (by omega), hSF 22 (by unfold Scr; omega)]; exact (hS2 i (by omega) (by omega)).1) (fun i hi => by rw [hF3 23 (by omega), hSF 23 (by unfold Scr; omega)]; exact (hS2 i (by omega) (by omega)).2)] at z; exact z) mX3_fit kX6_252 dX6_kinds_36 rfl rfl ⟨by decide, rfl⟩ rfl rfl (Nat.le_of_ble_eq_true rfl) (by decide) (fun r4 M4 q4 => ?_)
          obtain ⟨rfl, hF4⟩ := q4
          refine x_ifeq_b 48 42 dX6_kinds_39 (by decide) rfl (fun h39 => ?_) (fun h39 => ?_)
          · refine x_iinc 51 _ dX6_kinds_48 rfl (by decide) rfl rfl rfl ?_
            refine x_goto 17 dX6_kinds_51 (by decide) ?_
            have ih2 := ih (k + 1) _ (by omega) (by omega) ((hSF.tr (SF.of hF3)).tr (SF.of hF4))
            first | rw [if_pos (by assumption)] at hstep | rw [if_neg (by assumption), Nat.add_zero] at hstep
            rw [hstep] at ih2
            exact ih2
          · refine x_iload_n 43 2 dX6_kinds_42 rfl rfl (by decide) rfl ?_
            refine x_iconst 44 dX6_kinds_43 rfl ?_
            refine x_iload_n 45 3 dX6_kinds_44 rfl rfl (by decide) rfl ?_
            refine x_ishl 46 ((2 ^ k : Nat) : Int) dX6_kinds_45 rfl (shl1 (by omega)) ?_
            refine x_ior 47 ((bitN (knB s t) k + 2 ^ k : Nat) : Int) dX6_kinds_46 rfl (or_bit hbn) ?_
            refine x_istore_n 48 2 _ dX6_kinds_47 rfl rfl (by decide) rfl rfl ?_
            refine x_iinc 51 _ dX6_kinds_48 rfl (by decide) rfl rfl rfl ?_
            refine x_goto 17 dX6_kinds_51 (by decide) ?_
            have ih2 := ih (k + 1) _ (by omega) (by omega) ((hSF.tr (SF.of hF3)).tr (SF.of hF4))
            first | rw [if_pos (by assumption)] at hstep | rw [if_neg (by assumption), Nat.add_zero] at hstep
            rw [hstep] at ih2
            exact ih2
    refine x_iconst 14 dX6_kinds_13 rfl ?_
    refine x_istore_n 15 2 _ dX6_kinds_14 rfl rfl (by decide) rfl rfl ?_
    refine x_iconst 16 dX6_kinds_15 rfl ?_
    refine x_istore_n 17 3 _ dX6_kinds_16 rfl rfl (by decide) rfl rfl ?_
    exact loop 5 0 M (by omega) (by omega) (SF.rf M)
  · refine x_iconst 12 dX6_kinds_11 rfl ?_
    refine x_iret dX6_kinds_12 rfl ⟨rfl, Nat.le_refl _⟩ (qi_i ?_)
    refine PC.same hC ?_
    unfold aKinds; rw [if_neg (by omega)]

set_option maxHeartbeats 4000000 in
theorem c_strSeen {g : GG} {M : Mem} {s : ST} (hC : Cls M s) (hO : SOK s) (t : Int) (ht0 : 0 ≤ t ∧ t < vn (sV s)) : CI g tX6_strengthsAsSeen 6 [rv g 0, iv t] M (fun r M3 => r = (bitN (stB s t) 21 : Int) ∧ SF M M3) := by
  refine Con.of [some (rv g 0), some (iv t), none, none] (by decide +kernel) rfl (Nat.le_of_ble_eq_true rfl) ?_
  obtain ⟨hV, ⟨hk0, hk1, hi0, hi1⟩, ⟨hT1, hT2⟩, ⟨hS1, hS2⟩, hZ, hN, hF⟩ := id hC
  obtain ⟨oV, oW, oI0, oI1, oT, oTb, oS, oSb, oZ⟩ := id hO
  obtain ⟨e6, e7, e8, e4, e5⟩ := id hV
  have o1 := oV.1
  have o2 := oV.2.1
  have o3 := oV.2.2.1
  have ht2 : 0 ≤ t ∧ t < vn (sV s) := by omega
  have loop : ∀ (m k : Nat) (M2 : Mem), 21 - k < m → k ≤ 21 → SF M M2 → X g tX6_strengthsAsSeen (kk0 6) 4 [some (rv g 0), some (iv t), some (iv (bitN (stB s t) k)), some (iv k)] [] (S0, R0, M2) (QI (fun r M3 => r = (bitN (stB s t) 21 : Int) ∧ SF M M3)) := by
    intro m
    induction m with
    | zero => intro k M2 k1 k2; omega
    | succ m ih =>
      intro k M2 k1 k2 hSF
      have hV2 := hSF.R4 hV
      have hbn := bitN_lt (stB s t) k
      have hp2 : 2 ^ k ≤ 2 ^ 21 := Nat.pow_le_pow_right (by omega) (by omega)
      have hstep : bitN (stB s t) (k + 1) = bitN (stB s t) k + (if stB s t k then 2 ^ k else 0) := rfl
      refine x_iload_n 5 3 dX6_strengthsAsSeen_4 rfl rfl (by decide) rfl ?_
      refine x_bipush 7 dX6_strengthsAsSeen_5 rfl (by decide) ?_
      refine x_icmp_gt 42 10 dX6_strengthsAsSeen_7 (by decide) rfl (by omega) (fun h7 => ?_) (fun h7 => ?_)
      · refine x_iload_n 43 2 dX6_strengthsAsSeen_42 rfl rfl (by decide) rfl ?_
        refine x_iret dX6_strengthsAsSeen_43 rfl ⟨rfl, Nat.le_refl _⟩ (qi_i ?_)
        have hk : k = 21 := by omega
        subst hk
        exact ⟨rfl, hSF⟩
      · refine x_aload_n 11 0 dX6_strengthsAsSeen_10 rfl rfl (by decide) rfl ?_
        refine x_iload_n 12 1 dX6_strengthsAsSeen_11 rfl rfl (by decide) rfl ?_
        refine x_iload_n 13 3 dX6_strengthsAsSeen_12 rfl rfl (by decide) rfl ?_
        refine x_vv 16 [_, _] (c_tryStrength hV2 oV oW t k ht2 (by omega)) mX6_tryStrength kX6_211 dX6_strengthsAsSeen_13 rfl rfl ⟨by decide, rfl⟩ rfl rfl (Nat.le_of_ble_eq_true rfl) (by decide) (fun M3 q3 => ?_)
        obtain ⟨hR3, hF3⟩ := q3
        have hwf : WF (setS (sV s) (fu (vS (sV s)) t k)) := setS_WF oV t k (by omega)
        refine x_aload_n 17 0 dX6_strengthsAsSeen_16 rfl rfl (by decide) rfl ?_
        refine x_getR 20 7 21 dX6_strengthsAsSeen_17 rfl fX6_48 rfl rfl rfl ?_
        refine x_aload_n 21 0 dX6_strengthsAsSeen_20 rfl rfl (by decide) rfl ?_
        refine x_getR 24 3 11 dX6_strengthsAsSeen_21 rfl fX6_28 rfl rfl rfl ?_
        refine x_vi 27 [_] (by have z := c_fit (g := g) (o := 11) (Or.inr (Or.inl rfl)) hR3 hwf (by show vw (sV s) ≤ 10000; omega) (sc s).toNat (by rw [hF3 21 (by omega), hSF 21 (by unfold Scr; omega)]; omega) (by omega); rw [fitV_cong (a2 := sw s) (b2 := sl s) (fun i hi => by rw [hF3 22 (by omega), hSF 22 (by unfold Scr; omega)]; exact (hS2 i (by omega) (by omega)).1) (fun i hi => by rw [hF3 23 (by omega), hSF 23 (by unfold Scr; omega)]; exact (hS2 i (by omega) (by omega)).2)] at z; exact z) mX3_fit kX6_252 dX6_strengthsAsSeen_24 rfl rfl ⟨by decide, rfl⟩ rfl rfl (Nat.le_of_ble_eq_true rfl) (by decide) (fun r4 M4 q4 => ?_)
        obtain ⟨rfl, hF4⟩ := q4
        refine x_ifeq_b 36 30 dX6_strengthsAsSeen_27 (by decide) rfl (fun h27 => ?_) (fun h27 => ?_)
        · refine x_iinc 39 _ dX6_strengthsAsSeen_36 rfl (by decide) rfl rfl rfl ?_
          refine x_goto 4 dX6_strengthsAsSeen_39 (by decide) ?_
          have ih2 := ih (k + 1) _ (by omega) (by omega) ((hSF.tr (SF.of hF3)).tr (SF.of hF4))
          first | rw [if_pos (by assumption)] at hstep | rw [if_neg (by assumption), Nat.add_zero] at hstep
          rw [hstep] at ih2
          exact ih2
        · refine x_iload_n 31 2 dX6_strengthsAsSeen_30 rfl rfl (by decide) rfl ?_
          refine x_iconst 32 dX6_strengthsAsSeen_31 rfl ?_
          refine x_iload_n 33 3 dX6_strengthsAsSeen_32 rfl rfl (by decide) rfl ?_
          refine x_ishl 34 ((2 ^ k : Nat) : Int) dX6_strengthsAsSeen_33 rfl (shl1 (by omega)) ?_
          refine x_ior 35 ((bitN (stB s t) k + 2 ^ k : Nat) : Int) dX6_strengthsAsSeen_34 rfl (or_bit hbn) ?_
          refine x_istore_n 36 2 _ dX6_strengthsAsSeen_35 rfl rfl (by decide) rfl rfl ?_
          refine x_iinc 39 _ dX6_strengthsAsSeen_36 rfl (by decide) rfl rfl rfl ?_
          refine x_goto 4 dX6_strengthsAsSeen_39 (by decide) ?_
          have ih2 := ih (k + 1) _ (by omega) (by omega) ((hSF.tr (SF.of hF3)).tr (SF.of hF4))
          first | rw [if_pos (by assumption)] at hstep | rw [if_neg (by assumption), Nat.add_zero] at hstep
          rw [hstep] at ih2
          exact ih2
  refine x_iconst 1 dX6_strengthsAsSeen_0 rfl ?_
  refine x_istore_n 2 2 _ dX6_strengthsAsSeen_1 rfl rfl (by decide) rfl rfl ?_
  refine x_iconst 3 dX6_strengthsAsSeen_2 rfl ?_
  refine x_istore_n 4 3 _ dX6_strengthsAsSeen_3 rfl rfl (by decide) rfl rfl ?_
  exact loop 22 0 M (by omega) (by omega) (SF.rf M)

set_option maxHeartbeats 4000000 in
theorem p_strengths {g : GG} {M : Mem} {s : ST} (hC : Cls M s) (hO : SOK s) (t : Int) (ht : -2147483648 ≤ t ∧ t ≤ 2147483647) : CI g tX6_strengths 7 [rv g 0, iv t] M (PC M (aStrengths s t) s) := by
  refine Con.of [some (rv g 0), some (iv t)] (by decide +kernel) rfl (Nat.le_of_ble_eq_true rfl) ?_
  obtain ⟨hV, ⟨hk0, hk1, hi0, hi1⟩, ⟨hT1, hT2⟩, ⟨hS1, hS2⟩, hZ, hN, hF⟩ := id hC
  obtain ⟨oV, oW, oI0, oI1, oT, oTb, oS, oSb, oZ⟩ := id hO
  obtain ⟨e6, e7, e8, e4, e5⟩ := id hV
  have o1 := oV.1
  have o2 := oV.2.1
  have o3 := oV.2.2.1
  refine x_aload_n 1 0 dX6_strengths_0 rfl rfl (by decide) rfl ?_
  refine x_getR 4 2 4 dX6_strengths_1 rfl fX6_24 rfl rfl rfl ?_
  refine x_iload_n 5 1 dX6_strengths_4 rfl rfl (by decide) rfl ?_
  refine x_vp 8 [_] (c_hasTown (o := 4) (Or.inl rfl) t ht) mX1_hasTown kX6_120 dX6_strengths_5 rfl rfl ⟨by decide, rfl⟩ rfl rfl (Nat.le_of_ble_eq_true rfl) (by decide) ?_
  refine x_ifeq_b 19 11 dX6_strengths_8 (by decide) rfl (fun h8 => ?_) (fun h8 => ?_)
  · refine x_iconst 20 dX6_strengths_19 rfl ?_
    refine x_iret dX6_strengths_20 rfl ⟨rfl, Nat.le_refl _⟩ (qi_i ?_)
    first | (refine PC.scr hC ?_ hSF; unfold aStrengths; rw [if_pos (by omega)]; done) | (refine PC.same hC ?_; unfold aStrengths; rw [if_neg (by omega)])
  · refine x_aload_n 12 0 dX6_strengths_11 rfl rfl (by decide) rfl ?_
    refine x_iload_n 13 1 dX6_strengths_12 rfl rfl (by decide) rfl ?_
    refine x_vi 16 [_] (c_strSeen hC hO t (by omega)) mX6_strengthsAsSeen kX6_256 dX6_strengths_13 rfl rfl ⟨by decide, rfl⟩ rfl rfl (Nat.le_of_ble_eq_true rfl) (by decide) (fun r2 M2 q2 => ?_)
    obtain ⟨rfl, hSF⟩ := q2
    refine x_goto 20 dX6_strengths_16 (by decide) ?_
    refine x_iret dX6_strengths_20 rfl ⟨rfl, Nat.le_refl _⟩ (qi_i ?_)
    first | (refine PC.scr hC ?_ hSF; unfold aStrengths; rw [if_pos (by omega)]; done) | (refine PC.same hC ?_; unfold aStrengths; rw [if_neg (by omega)])

def dsd (x : Int32) : Nat → Int32
  | 0 => x
  | k + 1 => dsd x k * 1103515245 + 12345
def gotN (x : Int32) : Nat := x.toBitVec.toNat / 65536 % 32768
def drA (x : Int32) (n : Int) : Int := (gotN x : Int) % n
def drB (x : Int32) (n : Int) : Int := (drA x n + 1 + (gotN x : Int) / 8 % (n - 1)) % n
def drV (v : LV) (x : Int32) : Nat → LV
  | 0 => v
  | k + 1 => pass (game (drV v x k) (drA (dsd x (k + 1)) (vn v)) (drB (dsd x (k + 1)) (vn v)))
def drL (v : LV) (x : Int32) : Nat → Int
  | 0 => 0
  | k + 1 => drL v x k + (if 0 ≤ weaker (drV v x k) (drA (dsd x (k + 1)) (vn v)) (drB (dsd x (k + 1)) (vn v)) then 1 else 0)
theorem gotN_b (x : Int32) : gotN x < 32768 := Nat.mod_lt _ (by omega)
theorem mod_one {n a r : Int} (hn : 2 ≤ n ∧ n ≤ 5) (ha : 0 ≤ a ∧ a < n) (hr : 0 ≤ r ∧ r < n - 1) : (a + 1 + r) % n = a + 1 + r ∨ (a + 1 + r) % n = a + 1 + r - n := by
  rcases (show n = 2 ∨ n = 3 ∨ n = 4 ∨ n = 5 by omega) with e | e | e | e <;> subst e <;> omega
theorem dr_in (x : Int32) {n : Int} (hn : 2 ≤ n ∧ n ≤ 5) : (0 ≤ drA x n ∧ drA x n < n) ∧ (0 ≤ drB x n ∧ drB x n < n) ∧ drA x n ≠ drB x n ∧ (0 ≤ (gotN x : Int) / 8 % (n - 1) ∧ (gotN x : Int) / 8 % (n - 1) < n - 1) := by
  have h1 : 0 ≤ drA x n := Int.emod_nonneg _ (by omega)
  have h2 : drA x n < n := Int.emod_lt_of_pos _ (by omega)
  have h3 : 0 ≤ (gotN x : Int) / 8 % (n - 1) := Int.emod_nonneg _ (by omega)
  have h4 : (gotN x : Int) / 8 % (n - 1) < n - 1 := Int.emod_lt_of_pos _ (by omega)
  have h5 : drB x n = drA x n + 1 + (gotN x : Int) / 8 % (n - 1) ∨ drB x n = drA x n + 1 + (gotN x : Int) / 8 % (n - 1) - n := by
    exact mod_one hn ⟨h1, h2⟩ ⟨h3, h4⟩
  have h6 : 0 ≤ drB x n := Int.emod_nonneg _ (by omega)
  have h7 : drB x n < n := Int.emod_lt_of_pos _ (by omega)
  omega
theorem vn_pass (v : LV) : vn (pass v) = vn v := by
  unfold pass
  split <;> rfl
theorem vn_game (v : LV) (a b : Int) : vn (game v a b) = vn v := by
  unfold game
  split
  · rfl
  · split <;> rfl
theorem drV_n (v : LV) (x : Int32) : ∀ k, vn (drV v x k) = vn v
  | 0 => rfl
  | k + 1 => by
    show vn (pass (game _ _ _)) = _
    rw [vn_pass, vn_game]; exact drV_n v x k
theorem drV_w (v : LV) (x : Int32) : ∀ k, vw (drV v x k) = vw v + k
  | 0 => by simp [drV]
  | k + 1 => by
    have := drV_w v x k
    show vw (pass (game _ _ _)) = _
    rw [vw_pass, vw_game, this]; omega
theorem drV_WF {v : LV} (h : WF v) (hn : 2 ≤ vn v) (x : Int32) : ∀ k, WF (drV v x k)
  | 0 => h
  | k + 1 => by
    have ih := drV_WF h hn x k
    have h1 := h.1
    have d := dr_in (dsd x (k + 1)) (n := vn v) (by omega)
    exact pass_WF (game_WF ih (by rw [drV_n]; exact d.1) (by rw [drV_n]; exact d.2.1))
theorem drL_bd (v : LV) (x : Int32) : ∀ k, 0 ≤ drL v x k ∧ drL v x k ≤ k
  | 0 => by simp [drL]
  | k + 1 => by
    have := drL_bd v x k
    show 0 ≤ drL v x k + _ ∧ drL v x k + _ ≤ _
    split <;> omega
theorem dsd_s (x : Int32) (k : Nat) : Int32.ofInt ((dsd x k).toInt * 1103515245 + 12345) = dsd x (k + 1) := by
  rw [Int32.ofInt_add, Int32.ofInt_mul, Int32.ofInt_toInt]; rfl
theorem bt_u31 : ((Int32.toUInt32 (Int32.ofInt 16) &&& Int32.toUInt32 31).toBitVec % 32).toNat = 16 := by decide
theorem ushr16 (x : Int32) : ((Int32.ofInt x.toInt).toUInt32 >>> ((Int32.ofInt 16).toUInt32 &&& Int32.toUInt32 31)).toInt32 = Int32.ofInt ((x.toBitVec.toNat / 65536 : Nat) : Int) := by
  rw [Int32.ofInt_toInt, iN]
  apply Int32.toBitVec_inj.mp
  apply BitVec.eq_of_toNat_eq
  rw [pk_ushr x (Int32.ofInt 16) 16 bt_u31, pk_tn (by have := x.toBitVec.isLt; omega)]
theorem and32767 {n : Nat} (h : n < 65536) : Int32.ofInt (n : Int) &&& Int32.ofInt 32767 = Int32.ofInt ((n % 32768 : Nat) : Int) := by
  rw [iN, iN]
  exact pk_andN (by omega) 15 rfl
def aDrift (s : ST) (x n w : Int) : Int := if (1 ≤ n ∧ n ≤ 60) ∧ (0 ≤ w ∧ w ≤ 1) then (if vn (sV s) < 2 then -2 else if w = 0 then owed (drV (sV s) (Int32.ofInt x) n.toNat) else drL (sV s) (Int32.ofInt x) n.toNat) else -1

set_option maxHeartbeats 4000000 in
theorem p_drift {g : GG} {M : Mem} {s : ST} (hC : Cls M s) (hO : SOK s) (x n w : Int) (hx : -2147483648 ≤ x ∧ x ≤ 2147483647) (hn : -2147483648 ≤ n ∧ n ≤ 2147483647) (hw : -2147483648 ≤ w ∧ w ≤ 2147483647) : CI g tX6_drift 5 [rv g 0, iv x, iv n, iv w] M (PC M (aDrift s x n w) s) := by
  refine Con.of [some (rv g 0), some (iv x), some (iv n), some (iv w), none, none, none, none, none, none, none] (by decide +kernel) rfl (Nat.le_of_ble_eq_true rfl) ?_
  obtain ⟨hV, ⟨hk0, hk1, hi0, hi1⟩, ⟨hT1, hT2⟩, ⟨hS1, hS2⟩, hZ, hN, hF⟩ := id hC
  obtain ⟨oV, oW, oI0, oI1, oT, oTb, oS, oSb, oZ⟩ := id hO
  obtain ⟨e6, e7, e8, e4, e5⟩ := id hV
  have o1 := oV.1
  have o2 := oV.2.1
  have o3 := oV.2.2.1
  refine x_iload_n 1 2 dX6_drift_0 rfl rfl (by decide) rfl ?_
  refine x_iconst 2 dX6_drift_1 rfl ?_
  refine x_icmp_lt 19 5 dX6_drift_2 (by decide) rfl (by omega) (fun h2 => ?_) (fun h2 => ?_)
  · refine x_iconst 20 dX6_drift_19 rfl ?_
    refine x_iret dX6_drift_20 rfl ⟨rfl, Nat.le_refl _⟩ (qi_i ?_)
    refine PC.same hC ?_
    unfold aDrift; rw [if_neg (by omega)]
  · refine x_iload_n 6 2 dX6_drift_5 rfl rfl (by decide) rfl ?_
    refine x_bipush 8 dX6_drift_6 rfl (by decide) ?_
    refine x_icmp_gt 19 11 dX6_drift_8 (by decide) rfl (by omega) (fun h8 => ?_) (fun h8 => ?_)
    · refine x_iconst 20 dX6_drift_19 rfl ?_
      refine x_iret dX6_drift_20 rfl ⟨rfl, Nat.le_refl _⟩ (qi_i ?_)
      refine PC.same hC ?_
      unfold aDrift; rw [if_neg (by omega)]
    · refine x_iload_n 12 3 dX6_drift_11 rfl rfl (by decide) rfl ?_
      refine x_iconst 13 dX6_drift_12 rfl ?_
      refine x_sp 16 [_, _] (c_within _ _ (by omega) (by omega)) mX6_within kX6_70 dX6_drift_13 rfl rfl rfl (Nat.le_of_ble_eq_true rfl) (by decide) ?_
      refine x_ifne_b 21 19 dX6_drift_16 (by decide) rfl (fun h16 => ?_) (fun h16 => ?_)
      · refine x_aload_n 22 0 dX6_drift_21 rfl rfl (by decide) rfl ?_
        refine x_getR 25 2 4 dX6_drift_22 rfl fX6_24 rfl rfl rfl ?_
        refine x_getI 28 6 6 rfl dX6_drift_25 rfl fX6_101 rfl rfl (fun g25 => ?_)
        rw [e6]
        refine x_istore 30 4 _ dX6_drift_28 rfl (by decide) rfl rfl ?_
        refine x_iload 32 4 dX6_drift_30 rfl (by decide) rfl ?_
        refine x_iconst 33 dX6_drift_32 rfl ?_
        refine x_icmp_ge 39 36 dX6_drift_33 (by decide) rfl (by omega) (fun h33 => ?_) (fun h33 => ?_)
        · obtain ⟨N, rfl⟩ := Int.eq_ofNat_of_zero_le (show 0 ≤ n by omega)
          have hn2 : 2 ≤ vn (sV s) := by omega
          have loop : ∀ (m k : Nat) (M2 : Mem) (j8 j9 j10 : Option Value), xok [some (rv g 0), some (iv x), some (iv N), some (iv w), some (iv (vn (sV s))), some (iv (dsd (Int32.ofInt x) k).toInt), some (iv (drL (sV s) (Int32.ofInt x) k)), some (iv k), j8, j9, j10] 9 = true → xok [some (rv g 0), some (iv x), some (iv N), some (iv w), some (iv (vn (sV s))), some (iv (dsd (Int32.ofInt x) k).toInt), some (iv (drL (sV s) (Int32.ofInt x) k)), some (iv k), j8, j9, j10] 10 = true → N - k < m → k ≤ N → Rep M2 11 (drV (sV s) (Int32.ofInt x) k) → Fr 11 M M2 → X g tX6_drift (kk0 5) 59 [some (rv g 0), some (iv x), some (iv N), some (iv w), some (iv (vn (sV s))), some (iv (dsd (Int32.ofInt x) k).toInt), some (iv (drL (sV s) (Int32.ofInt x) k)), some (iv k), j8, j9, j10] [] (S0, R0, M2) (QI (PC M (aDrift s x N w) s)) := by
            intro m
            induction m with
            | zero => intro k M2 j8 j9 j10 y1 y2 k1 k2; omega
            | succ m ih =>
              intro k M2 j8 j9 j10 y1 y2 k1 k2 hR2 hF2
              have hwf := drV_WF oV hn2 (Int32.ofInt x) k
              have hww := drV_w (sV s) (Int32.ofInt x) k
              have hnn := drV_n (sV s) (Int32.ofInt x) k
              have lb := drL_bd (sV s) (Int32.ofInt x) k
              have hd := dr_in (dsd (Int32.ofInt x) (k + 1)) (n := vn (sV s)) (by omega)
              have gb := gotN_b (dsd (Int32.ofInt x) (k + 1))
              have xb := (dsd (Int32.ofInt x) (k + 1)).toBitVec.isLt
              have hstep : drL (sV s) (Int32.ofInt x) (k + 1) = drL (sV s) (Int32.ofInt x) k + (if 0 ≤ weaker (drV (sV s) (Int32.ofInt x) k) (drA (dsd (Int32.ofInt x) (k + 1)) (vn (sV s))) (drB (dsd (Int32.ofInt x) (k + 1)) (vn (sV s))) then 1 else 0) := rfl
              refine x_iload 61 7 dX6_drift_59 rfl (by decide) rfl ?_
              refine x_iload_n 62 2 dX6_drift_61 rfl rfl (by decide) rfl ?_
              refine x_icmp_ge 138 65 dX6_drift_62 (by decide) rfl (by omega) (fun h62 => ?_) (fun h62 => ?_)
              · refine x_iload_n 139 3 dX6_drift_138 rfl rfl (by decide) rfl ?_
                refine x_if_ne 152 142 dX6_drift_139 (by decide) rfl (by omega) (fun h139 => ?_) (fun h139 => ?_)
                · refine x_iload 154 6 dX6_drift_152 rfl (by decide) rfl ?_
                  refine x_iret dX6_drift_154 rfl ⟨rfl, Nat.le_refl _⟩ (qi_i ?_)
                  have hk : k = N := by omega
                  subst hk
                  refine PC.trial hC ?_ hF2
                  unfold aDrift; rw [if_pos (by omega), if_neg (by omega), Int.toNat_natCast]
                  first | rw [if_pos (by omega)] | rw [if_neg (by omega)]
                · refine x_aload_n 143 0 dX6_drift_142 rfl rfl (by decide) rfl ?_
                  refine x_getR 146 3 11 dX6_drift_143 rfl fX6_28 rfl rfl rfl ?_
                  refine x_vp 149 [] (c_owed (o := 11) (Or.inr (Or.inl rfl)) hR2 hwf) mX1_owed kX6_117 dX6_drift_146 rfl rfl ⟨by decide, rfl⟩ rfl rfl (Nat.le_of_ble_eq_true rfl) (by decide) ?_
                  refine x_goto 154 dX6_drift_149 (by decide) ?_
                  refine x_iret dX6_drift_154 rfl ⟨rfl, Nat.le_refl _⟩ (qi_i ?_)
                  have hk : k = N := by omega
                  subst hk
                  refine PC.trial hC ?_ hF2
                  unfold aDrift; rw [if_pos (by omega), if_neg (by omega), Int.toNat_natCast]
                  first | rw [if_pos (by omega)] | rw [if_neg (by omega)]
              · refine x_iload 67 5 dX6_drift_65 rfl (by decide) rfl ?_
                refine x_ldcw 70 1103515245 qX6_267 dX6_drift_67 rfl ?_
                refine x_imul 71 dX6_drift_70 rfl ?_
                refine x_sipush 74 dX6_drift_71 rfl (by decide) ?_
                refine x_iadd 75 dX6_drift_74 rfl ?_
                refine x_cv (z := (dsd (Int32.ofInt x) (k + 1)).toInt) (by rw [Int32.ofInt_toInt, dsd_s]) ?_
                refine x_istore 77 5 _ dX6_drift_75 rfl (by decide) rfl rfl ?_
                refine x_iload 79 5 dX6_drift_77 rfl (by decide) rfl ?_
                refine x_bipush 81 dX6_drift_79 rfl (by decide) ?_
                refine x_iushr 82 (((dsd (Int32.ofInt x) (k + 1)).toBitVec.toNat / 65536 : Nat) : Int) dX6_drift_81 rfl (ushr16 _) ?_
                refine x_sipush 85 dX6_drift_82 rfl (by decide) ?_
                refine x_iand 86 ((gotN (dsd (Int32.ofInt x) (k + 1)) : Nat) : Int) dX6_drift_85 rfl (and32767 (by omega)) ?_
                refine x_istore 88 8 _ dX6_drift_86 rfl (by decide) rfl rfl ?_
                refine x_iload 90 8 dX6_drift_88 rfl (by decide) rfl ?_
                refine x_iload 92 4 dX6_drift_90 rfl (by decide) rfl ?_
                refine x_irem 93 dX6_drift_92 rfl (by omega) ?_
                rw [show ((gotN (dsd (Int32.ofInt x) (k + 1)) : Nat) : Int) % vn (sV s) = drA (dsd (Int32.ofInt x) (k + 1)) (vn (sV s)) from rfl]
                refine x_istore 95 9 _ dX6_drift_93 rfl (by decide) rfl rfl ?_
                refine x_iload 97 9 dX6_drift_95 rfl (by decide) rfl ?_
                refine x_iconst 98 dX6_drift_97 rfl ?_
                refine x_iadd 99 dX6_drift_98 rfl ?_
                refine x_iload 101 8 dX6_drift_99 rfl (by decide) rfl ?_
                refine x_bipush 103 dX6_drift_101 rfl (by decide) ?_
                refine x_idiv 104 dX6_drift_103 rfl (by omega) ?_
                refine x_iload 106 4 dX6_drift_104 rfl (by decide) rfl ?_
                refine x_iconst 107 dX6_drift_106 rfl ?_
                refine x_isub 108 dX6_drift_107 rfl ?_
                refine x_irem 109 dX6_drift_108 rfl (by omega) ?_
                refine x_iadd 110 dX6_drift_109 rfl ?_
                refine x_iload 112 4 dX6_drift_110 rfl (by decide) rfl ?_
                refine x_irem 113 dX6_drift_112 rfl (by omega) ?_
                rw [show (drA (dsd (Int32.ofInt x) (k + 1)) (vn (sV s)) + 1 + (gotN (dsd (Int32.ofInt x) (k + 1)) : Int) / 8 % (vn (sV s) - 1)) % vn (sV s) = drB (dsd (Int32.ofInt x) (k + 1)) (vn (sV s)) from rfl]
                refine x_istore 115 10 _ dX6_drift_113 rfl (by decide) rfl rfl ?_
                refine x_aload_n 116 0 dX6_drift_115 rfl rfl (by decide) rfl ?_
                refine x_getR 119 3 11 dX6_drift_116 rfl fX6_28 rfl rfl rfl ?_
                refine x_iload 121 9 dX6_drift_119 rfl (by decide) rfl ?_
                refine x_iload 123 10 dX6_drift_121 rfl (by decide) rfl ?_
                refine x_vi 126 [_, _] (c_runWeekOf (o := 11) (Or.inr (Or.inl rfl)) hR2 hwf (by omega) _ _ (by rw [hnn]; exact hd.1) (by rw [hnn]; exact hd.2.1) hd.2.2.1) mX1_runWeekOf kX6_268 dX6_drift_123 rfl rfl ⟨by decide, rfl⟩ rfl rfl (Nat.le_of_ble_eq_true rfl) (by decide) (fun r3 M3 q3 => ?_)
                obtain ⟨rfl, hR3, hF3⟩ := q3
                have hwk := weaker_in (v := drV (sV s) (Int32.ofInt x) k) (a := drA (dsd (Int32.ofInt x) (k + 1)) (vn (sV s))) (b := drB (dsd (Int32.ofInt x) (k + 1)) (vn (sV s)))
                refine x_if_lt 132 129 dX6_drift_126 (by decide) rfl (by omega) (fun h126 => ?_) (fun h126 => ?_)
                · refine x_iinc 135 _ dX6_drift_132 rfl (by decide) rfl rfl rfl ?_
                  refine x_goto 59 dX6_drift_135 (by decide) ?_
                  have ih2 := ih (k + 1) M3 (some (iv (gotN (dsd (Int32.ofInt x) (k + 1)) : Nat))) (some (iv (drA (dsd (Int32.ofInt x) (k + 1)) (vn (sV s))))) (some (iv (drB (dsd (Int32.ofInt x) (k + 1)) (vn (sV s))))) rfl rfl (by omega) (by omega) hR3 (hF2.tr hF3)
                  first | rw [if_pos (by omega)] at hstep | rw [if_neg (by omega), Int.add_zero] at hstep
                  rw [hstep] at ih2
                  exact ih2
                · refine x_iinc 132 _ dX6_drift_129 rfl (by decide) rfl rfl rfl ?_
                  refine x_iinc 135 _ dX6_drift_132 rfl (by decide) rfl rfl rfl ?_
                  refine x_goto 59 dX6_drift_135 (by decide) ?_
                  have ih2 := ih (k + 1) M3 (some (iv (gotN (dsd (Int32.ofInt x) (k + 1)) : Nat))) (some (iv (drA (dsd (Int32.ofInt x) (k + 1)) (vn (sV s))))) (some (iv (drB (dsd (Int32.ofInt x) (k + 1)) (vn (sV s))))) rfl rfl (by omega) (by omega) hR3 (hF2.tr hF3)
                  first | rw [if_pos (by omega)] at hstep | rw [if_neg (by omega), Int.add_zero] at hstep
                  rw [hstep] at ih2
                  exact ih2
          refine x_aload_n 40 0 dX6_drift_39 rfl rfl (by decide) rfl ?_
          refine x_getR 43 3 11 dX6_drift_40 rfl fX6_28 rfl rfl rfl ?_
          refine x_aload_n 44 0 dX6_drift_43 rfl rfl (by decide) rfl ?_
          refine x_getR 47 2 4 dX6_drift_44 rfl fX6_24 rfl rfl rfl ?_
          refine x_vv 50 [_] (c_become (o := 11) (p := 4) (Or.inr (Or.inl rfl)) (Or.inl rfl) (by decide) hV oV) mX1_become kX6_94 dX6_drift_47 rfl rfl ⟨by decide, rfl⟩ rfl rfl (Nat.le_of_ble_eq_true rfl) (by decide) (fun Mb q2 => ?_)
          obtain ⟨hR2, hF2⟩ := q2
          refine x_iload_n 51 1 dX6_drift_50 rfl rfl (by decide) rfl ?_
          refine x_istore 53 5 _ dX6_drift_51 rfl (by decide) rfl rfl ?_
          refine x_iconst 54 dX6_drift_53 rfl ?_
          refine x_istore 56 6 _ dX6_drift_54 rfl (by decide) rfl rfl ?_
          refine x_iconst 57 dX6_drift_56 rfl ?_
          refine x_istore 59 7 _ dX6_drift_57 rfl (by decide) rfl rfl ?_
          have lp := loop (N + 1) 0 Mb none none none rfl rfl (by omega) (by omega) hR2 hF2
          have e0 : iv (dsd (Int32.ofInt x) 0).toInt = iv x := by (unfold iv; rw [Int32.ofInt_toInt]; rfl)
          rw [e0] at lp
          exact lp
        · refine x_bipush 38 dX6_drift_36 rfl (by decide) ?_
          refine x_iret dX6_drift_38 rfl ⟨rfl, Nat.le_refl _⟩ (qi_i ?_)
          refine PC.same hC ?_
          unfold aDrift; rw [if_pos (by omega), if_pos (by omega)]
      · refine x_iconst 20 dX6_drift_19 rfl ?_
        refine x_iret dX6_drift_20 rfl ⟨rfl, Nat.le_refl _⟩ (qi_i ?_)
        refine PC.same hC ?_
        unfold aDrift; rw [if_neg (by omega)]
