def facN (n : Nat) : Nat := [1, 1, 2, 6, 24, 120].getD n 120
theorem facN_s : ∀ k, k < 5 → facN k * (k + 1) = facN (k + 1) := by decide +kernel
theorem facN_b : ∀ k, k < 6 → 1 ≤ facN k ∧ facN k ≤ 120 := by decide +kernel
def nthG (bits : Nat) : Nat → Nat → Nat → Nat
  | 0, _, _ => 0
  | c + 1, i, l => if bits / 2 ^ i % 2 = 1 then (if l = 0 then i else nthG bits c (i + 1) (l - 1)) else nthG bits c (i + 1) l
theorem nthG_lt (bits : Nat) : ∀ (c i l : Nat), i + c ≤ 5 → nthG bits c i l < 5
  | 0, _, _, _ => by show 0 < 5; omega
  | c + 1, i, l, h => by
    show (if bits / 2 ^ i % 2 = 1 then (if l = 0 then i else nthG bits c (i + 1) (l - 1)) else nthG bits c (i + 1) l) < 5
    have h1 := nthG_lt bits c (i + 1) (l - 1) (by omega)
    have h2 := nthG_lt bits c (i + 1) l (by omega)
    repeat' split
    all_goals omega
def clr (fr ch : Nat) : Nat := if fr / 2 ^ ch % 2 = 1 then fr - 2 ^ ch else fr
theorem clr_lt {fr ch : Nat} (h : fr < 32) : clr fr ch < 32 := by
  unfold clr
  have := Nat.sub_le fr (2 ^ ch)
  split
  · exact Nat.lt_of_le_of_lt this h
  · exact h
theorem not_bit : ∀ ch, ch < 5 → Int32.ofInt ((2 ^ ch : Nat) : Int) ^^^ Int32.ofInt (-1) = Int32.ofInt (-((2 ^ ch : Nat) : Int) - 1) := by decide +kernel
theorem clr_bit : ∀ fr, fr < 32 → ∀ ch, ch < 5 → Int32.ofInt ((fr : Nat) : Int) &&& Int32.ofInt (-((2 ^ ch : Nat) : Int) - 1) = Int32.ofInt ((clr fr ch : Nat) : Int) := by decide +kernel
def rowG (f : Nat) : Nat → Nat → Nat → Nat → List Nat
  | 0, _, _, _ => []
  | c + 1, p, fr, rs => nthG fr 5 0 (rs / facN (f - 1 - p)) :: rowG f c (p + 1) (clr fr (nthG fr 5 0 (rs / facN (f - 1 - p)))) (rs % facN (f - 1 - p))
def rowL (f i : Nat) : List Nat := rowG f f 0 (2 ^ f - 1) i
def rowF (f i p : Nat) : Nat := (rowL f i).getD p 0
theorem rowF_lt : ∀ f, f < 6 → ∀ i, i < facN f → ∀ p, p < f → rowF f i p < f := by decide +kernel
def permV (v : LV) (r : Nat → Nat) : LV := setB (setA v (fun p => vA v (r p.toNat))) (fun p => vB v (r p.toNat))
def ordB (v : LV) : Nat → Int × Int
  | 0 => (-4, 496)
  | i + 1 => off (ordB v i) i (owed (goV (permV v (rowF (vf v).toNat i)) (vf v).toNat))
theorem permV_WF {v : LV} (h : WF v) {r : Nat → Nat} (hr : ∀ p, p < (vf v).toNat → r p < (vf v).toNat) : WF (permV v r) := by
  obtain ⟨h1, h2, h3, h4, h5⟩ := h
  refine ⟨h1, h2, h3, h4, fun i a b => ?_⟩
  have b : i < vf v := b
  have := hr i.toNat (by omega)
  exact h5 (r i.toNat : Nat) (by omega) (by omega)
theorem ordB_in {v : LV} (h : WF v) (hf : vf v ≤ 5) : ∀ k : Nat, k ≤ facN (vf v).toNat → (k = 0 ∧ ordB v k = (-4, 496)) ∨ (0 < k ∧ 0 ≤ (ordB v k).1 ∧ (ordB v k).1 < k ∧ 0 ≤ (ordB v k).2 ∧ (ordB v k).2 ≤ 495)
  | 0, _ => Or.inl ⟨rfl, rfl⟩
  | k + 1, hk => by
    have ih := ordB_in h hf k (by omega)
    have h2 := h.2.1
    have ob := owed_bd (goV_WF (permV_WF h (r := rowF (vf v).toNat k) (fun p hp => rowF_lt _ (by omega) k (by omega) p hp)) (vf v).toNat)
    have hs : ordB v (k + 1) = off (ordB v k) k (owed (goV (permV v (rowF (vf v).toNat k)) (vf v).toNat)) := rfl
    right
    rw [hs]
    unfold off
    rcases ih with ⟨-, e⟩ | e
    · rw [e]
      rw [if_pos (by show _ < (496 : Int); omega)]
      exact ⟨by omega, by show (0 : Int) ≤ (k : Int); omega, by show (k : Int) < ((k + 1 : Nat) : Int); omega, ob.1, ob.2⟩
    · split
      · exact ⟨by omega, by show (0 : Int) ≤ (k : Int); omega, by show (k : Int) < ((k + 1 : Nat) : Int); omega, ob.1, ob.2⟩
      · exact ⟨by omega, by omega, by omega, by omega, by omega⟩
def aOrder (s : ST) (w : Int) : Int := if w = 0 ∨ (10 ≤ w ∧ w ≤ 14) then (if 5 < vf (sV s) ∨ 0 < fixN (sV s) then -2 else if w = 0 then (ordB (sV s) (facN (vf (sV s)).toNat)).2 else if vf (sV s) ≤ w - 10 then -4 else (rowF (vf (sV s)).toNat (ordB (sV s) (facN (vf (sV s)).toNat)).1.toNat (w - 10).toNat : Int)) else -1

set_option maxHeartbeats 4000000 in
theorem c_factorial {g : GG} {M : Mem} (n : Nat) (hn : n ≤ 5) : CP g tX6_factorial 0 [iv n] M (facN n) := by
  refine Con.of [some (iv n), none, none] (by decide +kernel) rfl (Nat.le_of_ble_eq_true rfl) ?_
  have loop : ∀ (m k : Nat), 6 - k < m → 1 ≤ k → k ≤ 5 → (k = 1 ∨ k ≤ n) → X g tX6_factorial (kk0 0) 4 [some (iv n), some (iv (facN k)), some (iv (k + 1 : Nat))] [] (S0, R0, M) (QP M (facN n)) := by
    intro m
    induction m with
    | zero => intro k k1 k2; omega
    | succ m ih =>
      intro k k1 k2 k3 k4
      have fb := facN_b k (by omega)
      refine x_iload_n 5 2 dX6_factorial_4 rfl rfl (by decide) rfl ?_
      refine x_iload_n 6 0 dX6_factorial_5 rfl rfl (by decide) rfl ?_
      refine x_icmp_gt 24 9 dX6_factorial_6 (by decide) rfl (by omega) (fun h6 => ?_) (fun h6 => ?_)
      · refine x_iload_n 25 1 dX6_factorial_24 rfl rfl (by decide) rfl ?_
        refine x_iret dX6_factorial_25 rfl ⟨rfl, Nat.le_refl _⟩ (qp_i ?_ rfl)
        by_cases h0 : n = 0
        · have : k = 1 := by omega
          subst h0; subst this; rfl
        · have : k = n := by omega
          rw [this]
      · refine x_iload_n 10 2 dX6_factorial_9 rfl rfl (by decide) rfl ?_
        refine x_iconst 11 dX6_factorial_10 rfl ?_
        refine x_icmp_gt 24 14 dX6_factorial_11 (by decide) rfl (by omega) (fun h11 => ?_) (fun h11 => ?_)
        · exfalso; omega
        · refine x_iload_n 15 1 dX6_factorial_14 rfl rfl (by decide) rfl ?_
          refine x_iload_n 16 2 dX6_factorial_15 rfl rfl (by decide) rfl ?_
          refine x_imul 17 dX6_factorial_16 rfl ?_
          refine x_istore_n 18 1 _ dX6_factorial_17 rfl rfl (by decide) rfl rfl ?_
          refine x_iinc 21 _ dX6_factorial_18 rfl (by decide) rfl rfl rfl ?_
          refine x_goto 4 dX6_factorial_21 (by decide) ?_
          have hs := facN_s k (by omega)
          have ih2 := ih (k + 1) (by omega) (by omega) (by omega) (by omega)
          rw [← hs] at ih2
          have e1 : ((facN k * (k + 1) : Nat) : Int) = (facN k : Int) * ((k + 1 : Nat) : Int) := Int.natCast_mul _ _
          rw [e1] at ih2
          exact ih2
  refine x_iconst 1 dX6_factorial_0 rfl ?_
  refine x_istore_n 2 1 _ dX6_factorial_1 rfl rfl (by decide) rfl rfl ?_
  refine x_iconst 3 dX6_factorial_2 rfl ?_
  refine x_istore_n 4 2 _ dX6_factorial_3 rfl rfl (by decide) rfl rfl ?_
  exact loop 7 1 (by omega) (by omega) (by omega) (Or.inl rfl)

set_option maxHeartbeats 4000000 in
theorem c_nthBit {g : GG} {M : Mem} (bits n : Nat) (hb : bits < 32) (hn : n ≤ 200) : CP g tX6_nthBit 0 [iv bits, iv n] M (nthG bits 5 0 n) := by
  refine Con.of [some (iv bits), some (iv n), none, none] (by decide +kernel) rfl (Nat.le_of_ble_eq_true rfl) ?_
  have loop : ∀ (c i l : Nat), i + c = 5 → l ≤ 200 → nthG bits c i l = nthG bits 5 0 n → X g tX6_nthBit (kk0 0) 4 [some (iv bits), some (iv n), some (iv l), some (iv i)] [] (S0, R0, M) (QP M (nthG bits 5 0 n)) := by
    intro c
    induction c with
    | zero =>
      intro i l h hl he
      refine x_iload_n 5 3 dX6_nthBit_4 rfl rfl (by decide) rfl ?_
      refine x_iconst 6 dX6_nthBit_5 rfl ?_
      refine x_icmp_ge 33 9 dX6_nthBit_6 (by decide) rfl (by omega) (fun h6 => ?_) (fun h6 => ?_)
      · refine x_iconst 34 dX6_nthBit_33 rfl ?_
        refine x_iret dX6_nthBit_34 rfl ⟨rfl, Nat.le_refl _⟩ (qp_i ?_ rfl)
        rw [← he]; rfl
      · exfalso; omega
    | succ c ih =>
      intro i l h hl he
      have hstep : nthG bits (c + 1) i l = if bits / 2 ^ i % 2 = 1 then (if l = 0 then i else nthG bits c (i + 1) (l - 1)) else nthG bits c (i + 1) l := rfl
      have m2 : bits / 2 ^ i % 2 < 2 := Nat.mod_lt _ (by omega)
      have d2 : bits / 2 ^ i ≤ bits := Nat.div_le_self _ _
      refine x_iload_n 5 3 dX6_nthBit_4 rfl rfl (by decide) rfl ?_
      refine x_iconst 6 dX6_nthBit_5 rfl ?_
      refine x_icmp_ge 33 9 dX6_nthBit_6 (by decide) rfl (by omega) (fun h6 => ?_) (fun h6 => ?_)
      · exfalso; omega
      · refine x_iload_n 10 0 dX6_nthBit_9 rfl rfl (by decide) rfl ?_
        refine x_iload_n 11 3 dX6_nthBit_10 rfl rfl (by decide) rfl ?_
        refine x_ishr 12 ((bits / 2 ^ i : Nat) : Int) dX6_nthBit_11 rfl (shr_bit (by omega) (by omega)) ?_
        refine x_iconst 13 dX6_nthBit_12 rfl ?_
        refine x_iand 14 ((bits / 2 ^ i % 2 : Nat) : Int) dX6_nthBit_13 rfl (and_1 (by omega)) ?_
        refine x_iconst 15 dX6_nthBit_14 rfl ?_
        refine x_icmp_ne 27 18 dX6_nthBit_15 (by decide) rfl (by omega) (fun h15 => ?_) (fun h15 => ?_)
        · refine x_iinc 30 _ dX6_nthBit_27 rfl (by decide) rfl rfl rfl ?_
          refine x_goto 4 dX6_nthBit_30 (by decide) ?_
          first
            | (rw [if_neg (by omega)] at hstep; exact ih (i + 1) l (by omega) (by omega) (by rw [← hstep]; exact he))
            | (rw [if_pos (by omega), if_neg (by omega)] at hstep
               have ih2 := ih (i + 1) (l - 1) (by omega) (by omega) (by rw [← hstep]; exact he)
               have e1 : ((l - 1 : Nat) : Int) = (l : Int) + -1 := by omega
               rw [e1] at ih2
               exact ih2)
        · refine x_iload_n 19 2 dX6_nthBit_18 rfl rfl (by decide) rfl ?_
          refine x_if_ne 24 22 dX6_nthBit_19 (by decide) rfl (by omega) (fun h19 => ?_) (fun h19 => ?_)
          · refine x_iinc 27 _ dX6_nthBit_24 rfl (by decide) rfl rfl rfl ?_
            refine x_iinc 30 _ dX6_nthBit_27 rfl (by decide) rfl rfl rfl ?_
            refine x_goto 4 dX6_nthBit_30 (by decide) ?_
            first
              | (rw [if_neg (by omega)] at hstep; exact ih (i + 1) l (by omega) (by omega) (by rw [← hstep]; exact he))
              | (rw [if_pos (by omega), if_neg (by omega)] at hstep
                 have ih2 := ih (i + 1) (l - 1) (by omega) (by omega) (by rw [← hstep]; exact he)
                 have e1 : ((l - 1 : Nat) : Int) = (l : Int) + -1 := by omega
                 rw [e1] at ih2
                 exact ih2)
          · refine x_iload_n 23 3 dX6_nthBit_22 rfl rfl (by decide) rfl ?_
            refine x_iret dX6_nthBit_23 rfl ⟨rfl, Nat.le_refl _⟩ (qp_i ?_ rfl)
            rw [if_pos (by omega), if_pos (by omega)] at hstep
            rw [← he, hstep]
  refine x_iload_n 1 1 dX6_nthBit_0 rfl rfl (by decide) rfl ?_
  refine x_istore_n 2 2 _ dX6_nthBit_1 rfl rfl (by decide) rfl rfl ?_
  refine x_iconst 3 dX6_nthBit_2 rfl ?_
  refine x_istore_n 4 3 _ dX6_nthBit_3 rfl rfl (by decide) rfl rfl ?_
  exact loop 5 0 n (by omega) (by omega) rfl

set_option maxHeartbeats 4000000 in
theorem c_setRow {g : GG} {M : Mem} (f i : Nat) (hf : M 4 7 = f) (hf5 : f ≤ 5) (hi : i ≤ 120) : CV g tX6_setRow 1 [rv g 0, iv i] M (fun M3 => (∀ a, a ≠ 25 → M3 a = M a) ∧ ∀ q : Nat, q < f → M3 25 q = rowF f i q) := by
  refine Con.of [some (rv g 0), some (iv i), none, none, none, none, none] (by decide +kernel) rfl (Nat.le_of_ble_eq_true rfl) ?_
  have hpw : 2 ^ f < 2147483648 ∧ 1 ≤ 2 ^ f ∧ 2 ^ f ≤ 32 := by (have : ∀ z, z < 6 → 2 ^ z < 2147483648 ∧ 1 ≤ 2 ^ z ∧ 2 ^ z ≤ 32 := by decide); exact this f (by omega)
  have loop : ∀ (c p fr rs : Nat) (M2 : Mem) (j5 j6 : Option Value), xok [some (rv g 0), some (iv i), some (iv fr), some (iv rs), some (iv p), j5, j6] 5 = true → p + c = f → fr < 32 → rs ≤ 120 → (∀ a, a ≠ 25 → M2 a = M a) → (∀ q : Nat, q < p → M2 25 q = rowF f i q) → rowG f c p fr rs = (rowL f i).drop p → X g tX6_setRow (kk0 1) 17 [some (rv g 0), some (iv i), some (iv fr), some (iv rs), some (iv p), j5, j6] [] (S0, R0, M2) (QV (fun M3 => (∀ a, a ≠ 25 → M3 a = M a) ∧ ∀ q : Nat, q < f → M3 25 q = rowF f i q)) := by
    intro c
    induction c with
    | zero =>
      intro p fr rs M2 j5 j6 hx h h1 h2 h3 h4 h5
      have f7 : M2 4 7 = f := by rw [h3 4 (by omega)]; exact hf
      refine x_iload 19 4 dX6_setRow_17 rfl (by decide) rfl ?_
      refine x_aload_n 20 0 dX6_setRow_19 rfl rfl (by decide) rfl ?_
      refine x_getR 23 2 4 dX6_setRow_20 rfl fX6_24 rfl rfl rfl ?_
      refine x_getI 26 7 7 rfl dX6_setRow_23 rfl fX6_104 rfl rfl (fun g23 => ?_)
      refine x_icmp_ge 85 29 dX6_setRow_26 (by decide) rfl (by omega) (fun h26 => ?_) (fun h26 => ?_)
      · refine x_vret dX6_setRow_85 rfl ⟨rfl, Nat.le_refl _⟩ (qv_i ?_)
        have hp : p = f := by omega
        subst hp
        exact ⟨h3, h4⟩
      · exfalso; omega
    | succ c ih =>
      intro p fr rs M2 j5 j6 hx h h1 h2 h3 h4 h5
      have f7 : M2 4 7 = f := by rw [h3 4 (by omega)]; exact hf
      have fb := facN_b (f - 1 - p) (by omega)
      have hch := nthG_lt fr 5 0 (rs / facN (f - 1 - p)) (by omega)
      have hstep : rowG f (c + 1) p fr rs = nthG fr 5 0 (rs / facN (f - 1 - p)) :: rowG f c (p + 1) (clr fr (nthG fr 5 0 (rs / facN (f - 1 - p)))) (rs % facN (f - 1 - p)) := rfl
      rw [h5] at hstep
      have hdiv : rs / facN (f - 1 - p) ≤ rs := Nat.div_le_self _ _
      have hmod : rs % facN (f - 1 - p) ≤ rs := Nat.mod_le _ _
      have eF : M2 4 7 - 1 - (p : Int) = ((f - 1 - p : Nat) : Int) := by omega
      have eD : (rs : Int) / (facN (f - 1 - p) : Int) = ((rs / facN (f - 1 - p) : Nat) : Int) := rfl
      have eM : (rs : Int) % (facN (f - 1 - p) : Int) = ((rs % facN (f - 1 - p) : Nat) : Int) := rfl
      generalize hchd : nthG fr 5 0 (rs / facN (f - 1 - p)) = ch at hch hstep
      refine x_iload 19 4 dX6_setRow_17 rfl (by decide) rfl ?_
      refine x_aload_n 20 0 dX6_setRow_19 rfl rfl (by decide) rfl ?_
      refine x_getR 23 2 4 dX6_setRow_20 rfl fX6_24 rfl rfl rfl ?_
      refine x_getI 26 7 7 rfl dX6_setRow_23 rfl fX6_104 rfl rfl (fun g23 => ?_)
      refine x_icmp_ge 85 29 dX6_setRow_26 (by decide) rfl (by omega) (fun h26 => ?_) (fun h26 => ?_)
      · exfalso; omega
      · refine x_aload_n 30 0 dX6_setRow_29 rfl rfl (by decide) rfl ?_
        refine x_getR 33 2 4 dX6_setRow_30 rfl fX6_24 rfl rfl rfl ?_
        refine x_getI 36 7 7 rfl dX6_setRow_33 rfl fX6_104 rfl rfl (fun g33 => ?_)
        refine x_iconst 37 dX6_setRow_36 rfl ?_
        refine x_isub 38 dX6_setRow_37 rfl ?_
        refine x_iload 40 4 dX6_setRow_38 rfl (by decide) rfl ?_
        refine x_isub 41 dX6_setRow_40 rfl ?_
        rw [eF]
        refine x_sp 44 [_] (c_factorial (f - 1 - p) (by omega)) mX6_factorial kX6_192 dX6_setRow_41 rfl rfl rfl (Nat.le_of_ble_eq_true rfl) (by decide) ?_
        refine x_istore 46 5 _ dX6_setRow_44 rfl (by decide) rfl rfl ?_
        refine x_iload_n 47 2 dX6_setRow_46 rfl rfl (by decide) rfl ?_
        refine x_iload_n 48 3 dX6_setRow_47 rfl rfl (by decide) rfl ?_
        refine x_iload 50 5 dX6_setRow_48 rfl (by decide) rfl ?_
        refine x_idiv 51 dX6_setRow_50 rfl (by omega) ?_
        rw [eD]
        refine x_sp 54 [_, _] (by have z := c_nthBit (g := g) (M := M2) fr (rs / facN (f - 1 - p)) h1 (by omega); rw [hchd] at z; exact z) mX6_nthBit kX6_199 dX6_setRow_51 rfl rfl rfl (Nat.le_of_ble_eq_true rfl) (by decide) ?_
        refine x_istore 56 6 _ dX6_setRow_54 rfl (by decide) rfl rfl ?_
        refine x_aload_n 57 0 dX6_setRow_56 rfl rfl (by decide) rfl ?_
        refine x_getR 60 9 25 dX6_setRow_57 rfl fX6_59 rfl rfl rfl ?_
        refine x_iload 62 4 dX6_setRow_60 rfl (by decide) rfl ?_
        refine x_iload 64 6 dX6_setRow_62 rfl (by decide) rfl ?_
        refine x_iastore 65 dX6_setRow_64 rfl rfl (by omega) (by omega) ?_
        refine x_iload_n 66 2 dX6_setRow_65 rfl rfl (by decide) rfl ?_
        refine x_iconst 67 dX6_setRow_66 rfl ?_
        refine x_iload 69 6 dX6_setRow_67 rfl (by decide) rfl ?_
        refine x_ishl 70 ((2 ^ ch : Nat) : Int) dX6_setRow_69 rfl (shl1 (by omega)) ?_
        refine x_iconst 71 dX6_setRow_70 rfl ?_
        refine x_ixor 72 (-((2 ^ ch : Nat) : Int) - 1) dX6_setRow_71 rfl (not_bit ch hch) ?_
        refine x_iand 73 ((clr fr ch : Nat) : Int) dX6_setRow_72 rfl (clr_bit fr h1 ch hch) ?_
        refine x_istore_n 74 2 _ dX6_setRow_73 rfl rfl (by decide) rfl rfl ?_
        refine x_iload_n 75 3 dX6_setRow_74 rfl rfl (by decide) rfl ?_
        refine x_iload 77 5 dX6_setRow_75 rfl (by decide) rfl ?_
        refine x_irem 78 dX6_setRow_77 rfl (by omega) ?_
        rw [eM]
        refine x_istore_n 79 3 _ dX6_setRow_78 rfl rfl (by decide) rfl rfl ?_
        refine x_iinc 82 _ dX6_setRow_79 rfl (by decide) rfl rfl rfl ?_
        refine x_goto 17 dX6_setRow_82 (by decide) ?_
        refine ih (p + 1) _ _ _ _ _ rfl (by omega) (clr_lt h1) (by omega) (fun a ha => by rw [up2_o _ _ _ ha]; exact h3 a ha) (fun q hq => ?_) ?_
        · rw [up2_i]
          by_cases e : q = p
          · subst e
            rw [if_pos rfl]
            have : rowF f i q = ch := by (unfold rowF; rw [List.getD_eq_getElem?_getD, ← List.head?_drop, hstep]; rfl)
            rw [this]
          · rw [if_neg (by omega)]; exact h4 q (by omega)
        · rw [← List.drop_drop, hstep]; rfl
  refine x_iconst 1 dX6_setRow_0 rfl ?_
  refine x_aload_n 2 0 dX6_setRow_1 rfl rfl (by decide) rfl ?_
  refine x_getR 5 2 4 dX6_setRow_2 rfl fX6_24 rfl rfl rfl ?_
  refine x_getI 8 7 7 rfl dX6_setRow_5 rfl fX6_104 rfl rfl (fun g5 => ?_)
  rw [hf]
  refine x_ishl 9 ((2 ^ f : Nat) : Int) dX6_setRow_8 rfl (shl1 (by omega)) ?_
  refine x_iconst 10 dX6_setRow_9 rfl ?_
  refine x_isub 11 dX6_setRow_10 rfl ?_
  have eS : ((2 ^ f : Nat) : Int) - 1 = ((2 ^ f - 1 : Nat) : Int) := by omega
  rw [eS]
  refine x_istore_n 12 2 _ dX6_setRow_11 rfl rfl (by decide) rfl rfl ?_
  refine x_iload_n 13 1 dX6_setRow_12 rfl rfl (by decide) rfl ?_
  refine x_istore_n 14 3 _ dX6_setRow_13 rfl rfl (by decide) rfl rfl ?_
  refine x_iconst 15 dX6_setRow_14 rfl ?_
  refine x_istore 17 4 _ dX6_setRow_15 rfl (by decide) rfl rfl ?_
  exact loop f 0 (2 ^ f - 1) i M _ _ rfl (by omega) (by omega) hi (fun _ _ => rfl) (fun q hq => by omega) rfl
