def rbt (rain k : Nat) : Int := ((rain / 2 ^ k % 2 : Nat) : Int)
theorem rbt_or (rain k : Nat) : rbt rain k = 0 ∨ rbt rain k = 1 := by unfold rbt; omega
/-- weeks, those rained off whose bits rain has -/
def rnV (v : LV) (rain : Nat) : Nat → LV
  | 0 => v
  | k + 1 => wkV (rnV v rain k) (rbt rain k)
def rnX (v : LV) (t : Int) (rain : Nat) : Nat → Int
  | 0 => 0
  | k + 1 => if 0 ≤ wkL (rnV v rain k) (rbt rain k) ∧ wkL (rnV v rain k) (rbt rain k) = t then 1 else rnX v t rain k
theorem rnX_or (v : LV) (t : Int) (rain : Nat) : ∀ k, rnX v t rain k = 0 ∨ rnX v t rain k = 1
  | 0 => Or.inl rfl
  | k + 1 => by
    have h := rnX_or v t rain k
    show (if _ then (1 : Int) else rnX v t rain k) = 0 ∨ (if _ then (1 : Int) else rnX v t rain k) = 1
    split
    · exact Or.inr rfl
    · exact h
theorem rnX_s (v : LV) (t : Int) (rain k : Nat) : rnX v t rain (k + 1) = if 0 ≤ wkL (rnV v rain k) (rbt rain k) ∧ wkL (rnV v rain k) (rbt rain k) = t then 1 else rnX v t rain k := rfl
theorem rnV_WF {v : LV} (h : WF v) (rain : Nat) : ∀ k, WF (rnV v rain k)
  | 0 => h
  | k + 1 => wkV_WF (rnV_WF h rain k) _
theorem rnV_w (v : LV) (rain : Nat) : ∀ k, vw (rnV v rain k) = vw v + k
  | 0 => by simp [rnV]
  | k + 1 => by
    have := rnV_w v rain k
    show vw (wkV (rnV v rain k) _) = _
    rw [vw_wkV, this]; omega
def wgN (V n rain : Nat) : Nat := V ^ bsum rain n * (10 - V) ^ (n - bsum rain n)
theorem wgt_n {V : Nat} (h : V ≤ 10) (n rain : Nat) : wgt V n rain = (wgN V n rain : Int) := by
  unfold wgt wgN
  rw [show (10 : Int) - (V : Int) = ((10 - V : Nat) : Int) by omega, Int.natCast_mul, Int.natCast_pow, Int.natCast_pow]
theorem wgN_le {V : Nat} (h : V ≤ 10) (n rain : Nat) : wgN V n rain ≤ 10 ^ n := by
  have h1 : V ^ bsum rain n ≤ 10 ^ bsum rain n := Nat.pow_le_pow_left h _
  have h2 : (10 - V) ^ (n - bsum rain n) ≤ 10 ^ (n - bsum rain n) := Nat.pow_le_pow_left (by omega) _
  have h3 := Nat.mul_le_mul h1 h2
  rw [← Nat.pow_add] at h3
  have h4 := bsum_le rain n
  rw [show bsum rain n + (n - bsum rain n) = n by omega] at h3
  exact h3
def luS (v : LV) (V : Nat) (t : Int) (n : Nat) : Nat → Nat
  | 0 => 0
  | k + 1 => luS v V t n k + (if rnX v t k n = 1 then wgN V n k else 0)
def meS (v : LV) (V n : Nat) : Nat → Nat
  | 0 => 0
  | k + 1 => meS v V n k + (owed (rnV v k n)).toNat * wgN V n k
theorem p8 {n : Nat} (h : n ≤ 8) : 10 ^ n ≤ 100000000 ∧ 2 ^ n ≤ 256 ∧ 0 < 10 ^ n := by
  have a : 10 ^ n ≤ 10 ^ 8 := Nat.pow_le_pow_right (by omega) h
  have b : 2 ^ n ≤ 2 ^ 8 := Nat.pow_le_pow_right (by omega) h
  have c : 0 < 10 ^ n := Nat.pow_pos (by omega)
  have a2 : 10 ^ 8 = 100000000 := by decide
  have b2 : 2 ^ 8 = 256 := by decide
  omega
theorem luS_le (v : LV) {V n : Nat} (hV : V ≤ 10) (hn : n ≤ 8) (t : Int) : ∀ k, luS v V t n k ≤ 100000000 * k
  | 0 => Nat.le_refl _
  | k + 1 => by
    have h := luS_le v hV hn t k
    have h2 := wgN_le hV n k
    have h3 := p8 hn
    show luS v V t n k + (if rnX v t k n = 1 then wgN V n k else 0) ≤ 100000000 * (k + 1)
    split <;> omega
theorem meS_le {v : LV} (hW : WF v) {V n : Nat} (hV : V ≤ 10) (hn : n ≤ 8) : ∀ k, meS v V n k ≤ 49500000000 * k
  | 0 => Nat.le_refl _
  | k + 1 => by
    have h := meS_le hW hV hn k
    have h2 := wgN_le hV n k
    have h3 := p8 hn
    have h4 := owed_bd (rnV_WF hW k n)
    have h5 : (owed (rnV v k n)).toNat * wgN V n k ≤ 495 * 100000000 := Nat.mul_le_mul (by omega) (by omega)
    show meS v V n k + (owed (rnV v k n)).toNat * wgN V n k ≤ 49500000000 * (k + 1)
    omega
def aLuck (s : ST) (v t n w : Int) : Int := if (0 ≤ v ∧ v ≤ 10) ∧ (0 ≤ t ∧ t < vn (sV s)) ∧ (0 ≤ n ∧ n ≤ 8) ∧ (0 ≤ w ∧ w ≤ 1) then low (luS (sV s) v.toNat t n.toNat (2 ^ n.toNat)) (10 ^ n.toNat) w else -1
def aMean (s : ST) (v n w : Int) : Int := if (0 ≤ v ∧ v ≤ 10) ∧ (0 ≤ n ∧ n ≤ 8) ∧ (0 ≤ w ∧ w ≤ 1) then low (meS (sV s) v.toNat n.toNat (2 ^ n.toNat)) (10 ^ n.toNat) w else -1

set_option maxHeartbeats 4000000 in
theorem c_rain {g : GG} {M : Mem} {v : LV} (hR : Rep M 4 v) (hW : WF v) (hw : vw v ≤ 10000) (t : Int) (ht : -2147483648 ≤ t ∧ t ≤ 2147483647) (n rain : Nat) (hn : n ≤ 8) (hr : rain < 256) : CI g tX6_losesInRain 5 [rv g 0, iv t, iv n, iv rain] M (fun r M3 => r = rnX v t rain n ∧ Rep M3 11 (rnV v rain n) ∧ Fr 11 M M3) := by
  refine Con.of [some (rv g 0), some (iv t), some (iv n), some (iv rain), none, none, none] (by decide +kernel) rfl (Nat.le_of_ble_eq_true rfl) ?_
  have loop : ∀ (m k : Nat) (M2 : Mem) (j6 : Option Value), n - k < m → k ≤ n → Rep M2 11 (rnV v rain k) → Fr 11 M M2 → X g tX6_losesInRain (kk0 5) 17 [some (rv g 0), some (iv t), some (iv n), some (iv rain), some (iv (rnX v t rain k)), some (iv k), j6] [] (S0, R0, M2) (QI (fun r M3 => r = rnX v t rain n ∧ Rep M3 11 (rnV v rain n) ∧ Fr 11 M M3)) := by
    intro m
    induction m with
    | zero => intro k M2 j6 k1 k2; omega
    | succ m ih =>
      intro k M2 j6 k1 k2 hR2 hF2
      have hxo := rnX_or v t rain k
      have hwf := rnV_WF hW rain k
      have hww := rnV_w v rain k
      have hin := wkL_in hwf (rbt rain k)
      have hn5 := hwf.1
      have hxs := rnX_s v t rain k
      have hrb := rbt_or rain k
      have tail : ∀ r : Int, r = rbt rain k → k < n → X g tX6_losesInRain (kk0 5) 42 [some (rv g 0), some (iv t), some (iv n), some (iv rain), some (iv (rnX v t rain k)), some (iv k), j6] [iv r, rv g 11] (S0, R0, M2) (QI (fun r M3 => r = rnX v t rain n ∧ Rep M3 11 (rnV v rain n) ∧ Fr 11 M M3)) := by
        intro r hr hkn
        subst hr
        refine x_vi 45 [_] (c_runWeek (o := 11) (Or.inr (Or.inl rfl)) hR2 hwf (by omega) _ hrb) mX1_runWeek kX6_169 dX6_losesInRain_42 rfl rfl ⟨by decide, rfl⟩ rfl rfl (Nat.le_of_ble_eq_true rfl) (by decide) (fun r3 M3 q3 => ?_)
        obtain ⟨rfl, hR3, hF3⟩ := q3
        refine x_istore 47 6 _ dX6_losesInRain_45 rfl (by decide) rfl rfl ?_
        refine x_iload 49 6 dX6_losesInRain_47 rfl (by decide) rfl ?_
        refine x_if_lt 61 52 dX6_losesInRain_49 (by decide) rfl (by omega) (fun h49 => ?_) (fun h49 => ?_)
        · refine x_iinc 64 _ dX6_losesInRain_61 rfl (by decide) rfl rfl rfl ?_
          refine x_goto 17 dX6_losesInRain_64 (by decide) ?_
          first
          | (rw [if_pos (by omega)] at hxs
             have e0 := ih (k + 1) _ (some (iv (wkL (rnV v rain k) (rbt rain k)))) (by omega) (by omega) hR3 (hF2.tr hF3)
             rw [hxs] at e0
             exact e0)
          | (rw [if_neg (by omega)] at hxs
             have e0 := ih (k + 1) _ (some (iv (wkL (rnV v rain k) (rbt rain k)))) (by omega) (by omega) hR3 (hF2.tr hF3)
             rw [hxs] at e0
             exact e0)
        · refine x_iload 54 6 dX6_losesInRain_52 rfl (by decide) rfl ?_
          refine x_iload_n 55 1 dX6_losesInRain_54 rfl rfl (by decide) rfl ?_
          refine x_icmp_ne 61 58 dX6_losesInRain_55 (by decide) rfl (by omega) (fun h55 => ?_) (fun h55 => ?_)
          · refine x_iinc 64 _ dX6_losesInRain_61 rfl (by decide) rfl rfl rfl ?_
            refine x_goto 17 dX6_losesInRain_64 (by decide) ?_
            first
            | (rw [if_pos (by omega)] at hxs
               have e0 := ih (k + 1) _ (some (iv (wkL (rnV v rain k) (rbt rain k)))) (by omega) (by omega) hR3 (hF2.tr hF3)
               rw [hxs] at e0
               exact e0)
            | (rw [if_neg (by omega)] at hxs
               have e0 := ih (k + 1) _ (some (iv (wkL (rnV v rain k) (rbt rain k)))) (by omega) (by omega) hR3 (hF2.tr hF3)
               rw [hxs] at e0
               exact e0)
          · refine x_iconst 59 dX6_losesInRain_58 rfl ?_
            refine x_istore 61 4 _ dX6_losesInRain_59 rfl (by decide) rfl rfl ?_
            refine x_iinc 64 _ dX6_losesInRain_61 rfl (by decide) rfl rfl rfl ?_
            refine x_goto 17 dX6_losesInRain_64 (by decide) ?_
            first
            | (rw [if_pos (by omega)] at hxs
               have e0 := ih (k + 1) _ (some (iv (wkL (rnV v rain k) (rbt rain k)))) (by omega) (by omega) hR3 (hF2.tr hF3)
               rw [hxs] at e0
               exact e0)
            | (rw [if_neg (by omega)] at hxs
               have e0 := ih (k + 1) _ (some (iv (wkL (rnV v rain k) (rbt rain k)))) (by omega) (by omega) hR3 (hF2.tr hF3)
               rw [hxs] at e0
               exact e0)
      refine x_iload 19 5 dX6_losesInRain_17 rfl (by decide) rfl ?_
      refine x_iload_n 20 2 dX6_losesInRain_19 rfl rfl (by decide) rfl ?_
      refine x_icmp_ge 67 23 dX6_losesInRain_20 (by decide) rfl (by omega) (fun h20 => ?_) (fun h20 => ?_)
      · refine x_iload 69 4 dX6_losesInRain_67 rfl (by decide) rfl ?_
        refine x_zret dX6_losesInRain_69 rfl (by omega) ⟨rfl, Nat.le_refl _⟩ (qi_i ?_)
        have e : k = n := by omega
        subst e
        exact ⟨rfl, hR2, hF2⟩
      · refine x_aload_n 24 0 dX6_losesInRain_23 rfl rfl (by decide) rfl ?_
        refine x_getR 27 3 11 dX6_losesInRain_24 rfl fX6_28 rfl rfl rfl ?_
        refine x_iload_n 28 3 dX6_losesInRain_27 rfl rfl (by decide) rfl ?_
        refine x_iload 30 5 dX6_losesInRain_28 rfl (by decide) rfl ?_
        refine x_ishr 31 ((rain / 2 ^ k : Nat) : Int) dX6_losesInRain_30 rfl (shr_bit (by omega) (by omega)) ?_
        refine x_iconst 32 dX6_losesInRain_31 rfl ?_
        refine x_iand 33 ((rain / 2 ^ k % 2 : Nat) : Int) dX6_losesInRain_32 rfl (and_1 (Nat.lt_of_le_of_lt (Nat.div_le_self _ _) (by omega))) ?_
        refine x_iconst 34 dX6_losesInRain_33 rfl ?_
        refine x_icmp_ne 41 37 dX6_losesInRain_34 (by decide) rfl (by omega) (fun h34 => ?_) (fun h34 => ?_)
        · refine x_iconst 42 dX6_losesInRain_41 rfl ?_
          exact tail _ (by unfold rbt; omega) (by omega)
        · refine x_iconst 38 dX6_losesInRain_37 rfl ?_
          refine x_goto 42 dX6_losesInRain_38 (by decide) ?_
          exact tail _ (by unfold rbt; omega) (by omega)
  refine x_aload_n 1 0 dX6_losesInRain_0 rfl rfl (by decide) rfl ?_
  refine x_getR 4 3 11 dX6_losesInRain_1 rfl fX6_28 rfl rfl rfl ?_
  refine x_aload_n 5 0 dX6_losesInRain_4 rfl rfl (by decide) rfl ?_
  refine x_getR 8 2 4 dX6_losesInRain_5 rfl fX6_24 rfl rfl rfl ?_
  refine x_vv 11 [_] (c_become (o := 11) (p := 4) (Or.inr (Or.inl rfl)) (Or.inl rfl) (by decide) hR hW) mX1_become kX6_94 dX6_losesInRain_8 rfl rfl ⟨by decide, rfl⟩ rfl rfl (Nat.le_of_ble_eq_true rfl) (by decide) (fun Mb q2 => ?_)
  obtain ⟨hR2, hF2⟩ := q2
  refine x_iconst 12 dX6_losesInRain_11 rfl ?_
  refine x_istore 14 4 _ dX6_losesInRain_12 rfl (by decide) rfl rfl ?_
  refine x_iconst 15 dX6_losesInRain_14 rfl ?_
  refine x_istore 17 5 _ dX6_losesInRain_15 rfl (by decide) rfl rfl ?_
  exact loop (n + 1) 0 _ _ (by omega) (by omega) hR2 hF2
