/-! ===== Integer.bitCount ===== -/
theorem and_n (a b : Nat) : Int32.ofInt (a : Int) &&& Int32.ofInt (b : Int) = Int32.ofInt ((a &&& b : Nat) : Int) := by
  rw [iN, iN, iN]
  apply Int32.toBitVec_inj.mp
  show BitVec.ofNat 32 a &&& BitVec.ofNat 32 b = BitVec.ofNat 32 (a &&& b)
  apply BitVec.eq_of_toNat_eq
  simp [BitVec.toNat_ofNat, Nat.and_mod_two_pow]
theorem ushr_n {a : Nat} (k : Nat) (ha : a < 4294967296) (hk : (((Int32.ofInt (k : Int)).toUInt32 &&& Int32.toUInt32 31).toBitVec % 32).toNat = k) : ((Int32.ofInt (a : Int)).toUInt32 >>> ((Int32.ofInt (k : Int)).toUInt32 &&& Int32.toUInt32 31)).toInt32 = Int32.ofInt ((a / 2 ^ k : Nat) : Int) := by
  rw [iN a, pk_ushrN (by omega) (Int32.ofInt (k : Int)) k hk, ← iN]
def p1m (m x : Nat) : Nat := x - (x / 2 &&& m)
def p2m (m y : Nat) : Nat := (y &&& m) + (y / 4 &&& m)
def p3m (m z : Nat) : Nat := (z + z / 16) &&& m
def popW (x : Nat) : Nat := p3m 252645135 (p2m 858993459 (p1m 1431655765 x))
def popU (x : Nat) : Nat := popW x + popW x / 256
def popJ (x : Nat) : Nat := (popU x + popU x / 65536) &&& 63
theorem p1m_le (m x : Nat) : p1m m x ≤ x := Nat.sub_le _ _
theorem p1m_in (m x : Nat) : (x / 2 &&& m) ≤ x := Nat.le_trans Nat.and_le_left (Nat.div_le_self _ _)
theorem p2m_le (m y : Nat) : p2m m y ≤ 2 * y := by
  unfold p2m
  have h1 : y &&& m ≤ y := Nat.and_le_left
  have h2 : y / 4 &&& m ≤ y / 4 := Nat.and_le_left
  omega
theorem p3m_le (m z : Nat) : p3m m z ≤ z + z / 16 := Nat.and_le_left
def bsum (x : Nat) : Nat → Nat
  | 0 => 0
  | n + 1 => bsum x n + x / 2 ^ n % 2
theorem and_split {a r m0 m : Nat} (ha : a < 256) (hm : m0 < 256) : (a + 256 * r) &&& (m0 + 256 * m) = (a &&& m0) + 256 * (r &&& m) := by
  have e1 := Nat.mod_add_div ((a + 256 * r) &&& (m0 + 256 * m)) 256
  have e2 : ((a + 256 * r) &&& (m0 + 256 * m)) % 256 = a &&& m0 := by
    have := Nat.and_mod_two_pow (a := a + 256 * r) (b := m0 + 256 * m) (n := 8)
    rw [show 2 ^ 8 = 256 from rfl] at this
    rw [this, show (a + 256 * r) % 256 = a by omega, show (m0 + 256 * m) % 256 = m0 by omega]
  have e3 : ((a + 256 * r) &&& (m0 + 256 * m)) / 256 = r &&& m := by
    have := Nat.and_div_two_pow (a := a + 256 * r) (b := m0 + 256 * m) (n := 8)
    rw [show 2 ^ 8 = 256 from rfl] at this
    rw [this, show (a + 256 * r) / 256 = r by omega, show (m0 + 256 * m) / 256 = m by omega]
  rw [e2, e3] at e1
  exact e1.symm
theorem low1 : ∀ t, t < 128 → ∀ e, e < 2 → (t + 128 * e) &&& 85 = t &&& 85 := by decide +kernel
theorem low2 : ∀ t, t < 64 → ∀ e, e < 4 → (t + 64 * e) &&& 51 = t &&& 51 := by decide +kernel
theorem low3 : ∀ t, t < 69 → ∀ e, e < 5 → (t + t / 16 + 16 * e) &&& 15 = (t + t / 16) &&& 15 := by decide +kernel
theorem p1m_s {a r m : Nat} (ha : a < 256) : p1m (85 + 256 * m) (a + 256 * r) = p1m 85 a + 256 * p1m m r := by
  have e : (a + 256 * r) / 2 = (a / 2 + 128 * (r % 2)) + 256 * (r / 2) := by omega
  have i1 := p1m_in 85 a
  have i2 := p1m_in m r
  unfold p1m
  rw [e, and_split (by omega) (by omega), low1 (a / 2) (by omega) (r % 2) (by omega)]
  omega
theorem p2m_s {a r m : Nat} (ha : a < 256) : p2m (51 + 256 * m) (a + 256 * r) = p2m 51 a + 256 * p2m m r := by
  have e : (a + 256 * r) / 4 = (a / 4 + 64 * (r % 4)) + 256 * (r / 4) := by omega
  unfold p2m
  rw [e, and_split (by omega) (by omega), and_split (by omega) (by omega), low2 (a / 4) (by omega) (r % 4) (by omega)]
  omega
theorem p3m_s {a r m : Nat} (ha : a < 69) (hr : r % 16 < 5) : p3m (15 + 256 * m) (a + 256 * r) = p3m 15 a + 256 * p3m m r := by
  have e : (a + 256 * r) + (a + 256 * r) / 16 = (a + a / 16 + 16 * (r % 16)) + 256 * (r + r / 16) := by omega
  unfold p3m
  rw [e, and_split (by omega) (by omega), low3 a ha (r % 16) hr]
theorem byteP : ∀ t, t < 256 → p1m 85 t < 256 ∧ p2m 51 (p1m 85 t) < 69 ∧ p2m 51 (p1m 85 t) % 16 < 5 ∧ p3m 15 (p2m 51 (p1m 85 t)) = bsum t 8 ∧ bsum t 8 ≤ 8 := by decide +kernel
theorem popW_eq {a b c : Nat} (ha : a < 256) (hb : b < 256) (hc : c < 256) : popW (a + 256 * (b + 256 * (c + 256 * 0))) = bsum a 8 + 256 * (bsum b 8 + 256 * (bsum c 8 + 256 * 0)) := by
  have A := byteP a ha
  have B := byteP b hb
  have C := byteP c hc
  have z1 : ∀ m, p1m m 0 = 0 := fun m => by unfold p1m; omega
  have z2 : ∀ m, p2m m 0 = 0 := fun m => by unfold p2m; simp
  have z3 : ∀ m, p3m m 0 = 0 := fun m => by unfold p3m; simp
  unfold popW
  rw [show 1431655765 = 85 + 256 * (85 + 256 * (85 + 256 * 85)) from rfl, p1m_s ha, p1m_s hb, p1m_s hc, z1]
  rw [show 858993459 = 51 + 256 * (51 + 256 * (51 + 256 * 51)) from rfl, p2m_s A.1, p2m_s B.1, p2m_s C.1, z2]
  rw [show 252645135 = 15 + 256 * (15 + 256 * (15 + 256 * 15)) from rfl, p3m_s A.2.1 (by have := B.2.2.1; omega), p3m_s B.2.1 (by have := C.2.2.1; omega), p3m_s C.2.1 (by omega), z3]
  rw [A.2.2.2.1, B.2.2.2.1, C.2.2.2.1]
theorem bsum_split (a r : Nat) (ha : a < 256) : ∀ k, bsum (a + 256 * r) (8 + k) = bsum a 8 + bsum r k
  | 0 => by
    have : ∀ j, j < 8 → (a + 256 * r) / 2 ^ j % 2 = a / 2 ^ j % 2 := fun j hj => by
      match j, hj with
      | 0, _ => omega
      | 1, _ => omega
      | 2, _ => omega
      | 3, _ => omega
      | 4, _ => omega
      | 5, _ => omega
      | 6, _ => omega
      | 7, _ => omega
    show bsum (a + 256 * r) 8 = bsum a 8
    simp only [bsum, this 0 (by omega), this 1 (by omega), this 2 (by omega), this 3 (by omega), this 4 (by omega), this 5 (by omega), this 6 (by omega), this 7 (by omega)]
  | k + 1 => by
    have ih := bsum_split a r ha k
    show bsum (a + 256 * r) (8 + k) + (a + 256 * r) / 2 ^ (8 + k) % 2 = bsum a 8 + (bsum r k + r / 2 ^ k % 2)
    rw [ih, Nat.pow_add, ← Nat.div_div_eq_div_mul, show 2 ^ 8 = 256 from rfl, show (a + 256 * r) / 256 = r by omega]
    omega
theorem fin3 : ∀ a, a < 9 → ∀ b, b < 9 → ∀ c, c < 9 → (a + 256 * (b + 256 * (c + 256 * 0)) + (a + 256 * (b + 256 * (c + 256 * 0))) / 256 + (a + 256 * (b + 256 * (c + 256 * 0)) + (a + 256 * (b + 256 * (c + 256 * 0))) / 256) / 65536) % 64 = a + (b + (c + 0)) := by decide +kernel
theorem popJ_eq {x : Nat} (h : x < 16777216) : popJ x = bsum x 24 := by
  have hx : x = x % 256 + 256 * (x / 256 % 256 + 256 * (x / 65536 + 256 * 0)) := by omega
  have A := byteP (x % 256) (by omega)
  have B := byteP (x / 256 % 256) (by omega)
  have C := byteP (x / 65536) (by omega)
  have hW := popW_eq (a := x % 256) (b := x / 256 % 256) (c := x / 65536) (by omega) (by omega) (by omega)
  rw [← hx] at hW
  have hb : bsum x 24 = bsum (x % 256) 8 + (bsum (x / 256 % 256) 8 + (bsum (x / 65536) 8 + 0)) := by
    have e1 := bsum_split (x % 256) (x / 256) (by omega) 16
    rw [show x % 256 + 256 * (x / 256) = x by omega] at e1
    have e2 := bsum_split (x / 256 % 256) (x / 65536) (by omega) 8
    rw [show x / 256 % 256 + 256 * (x / 65536) = x / 256 by omega] at e2
    show bsum x (8 + 16) = _
    rw [e1]
    show bsum (x % 256) 8 + bsum (x / 256) (8 + 8) = _
    rw [e2]; omega
  have b1 := A.2.2.2.2
  have b2 := B.2.2.2.2
  have b3 := C.2.2.2.2
  have hm : popJ x = (popU x + popU x / 65536) % 64 := by
    unfold popJ
    exact Nat.and_two_pow_sub_one_eq_mod _ 6
  rw [hm, hb]
  unfold popU
  rw [hW]
  exact fin3 _ (by omega) _ (by omega) _ (by omega)

set_option maxHeartbeats 4000000 in
theorem c_bitCount {g : GG} {M : Mem} (x : Nat) (hx : x < 2097152) : CP g tJ6_bitCount_0f7a4 0 [iv x] M (bsum x 24 : Nat) := by
  refine Con.ofF [some (iv x)] (by decide +kernel) rfl (Nat.le_of_ble_eq_true rfl) ?_
  have h1 := p1m_le 1431655765 x
  have h1i := p1m_in 1431655765 x
  have h2 := p2m_le 858993459 (p1m 1431655765 x)
  have h3 := p3m_le 252645135 (p2m 858993459 (p1m 1431655765 x))
  have h3w : popW x = p3m 252645135 (p2m 858993459 (p1m 1431655765 x)) := rfl
  have h4 : popU x = popW x + popW x / 256 := rfl
  refine x_iload_n 1 0 dJ6_bitCount_0f7a4_0 rfl rfl (by decide) rfl ?_
  refine x_iload_n 2 0 dJ6_bitCount_0f7a4_1 rfl rfl (by decide) rfl ?_
  refine x_iconst 3 dJ6_bitCount_0f7a4_2 rfl ?_
  refine x_iushr 4 ((x / 2 ^ 1 : Nat) : Int) dJ6_bitCount_0f7a4_3 rfl (ushr_n 1 (by omega) (by decide)) ?_
  refine x_ldcw 7 1431655765 qJ6_265 dJ6_bitCount_0f7a4_4 rfl ?_
  refine x_iand 8 ((x / 2 &&& 1431655765 : Nat) : Int) dJ6_bitCount_0f7a4_7 rfl (and_n _ _) ?_
  refine x_isub 9 dJ6_bitCount_0f7a4_8 rfl ?_
  rw [show ((x : Nat) : Int) - ((x / 2 &&& 1431655765 : Nat) : Int) = ((p1m 1431655765 x : Nat) : Int) from by (unfold p1m; omega)]
  refine x_istore_n 10 0 _ dJ6_bitCount_0f7a4_9 rfl rfl (by decide) rfl rfl ?_
  refine x_iload_n 11 0 dJ6_bitCount_0f7a4_10 rfl rfl (by decide) rfl ?_
  refine x_ldcw 14 858993459 qJ6_266 dJ6_bitCount_0f7a4_11 rfl ?_
  refine x_iand 15 ((p1m 1431655765 x &&& 858993459 : Nat) : Int) dJ6_bitCount_0f7a4_14 rfl (and_n _ _) ?_
  refine x_iload_n 16 0 dJ6_bitCount_0f7a4_15 rfl rfl (by decide) rfl ?_
  refine x_iconst 17 dJ6_bitCount_0f7a4_16 rfl ?_
  refine x_iushr 18 ((p1m 1431655765 x / 2 ^ 2 : Nat) : Int) dJ6_bitCount_0f7a4_17 rfl (ushr_n 2 (by omega) (by decide)) ?_
  refine x_ldcw 21 858993459 qJ6_266 dJ6_bitCount_0f7a4_18 rfl ?_
  refine x_iand 22 ((p1m 1431655765 x / 4 &&& 858993459 : Nat) : Int) dJ6_bitCount_0f7a4_21 rfl (and_n _ _) ?_
  refine x_iadd 23 dJ6_bitCount_0f7a4_22 rfl ?_
  rw [show ((p1m 1431655765 x &&& 858993459 : Nat) : Int) + ((p1m 1431655765 x / 4 &&& 858993459 : Nat) : Int) = ((p2m 858993459 (p1m 1431655765 x) : Nat) : Int) from rfl]
  refine x_istore_n 24 0 _ dJ6_bitCount_0f7a4_23 rfl rfl (by decide) rfl rfl ?_
  refine x_iload_n 25 0 dJ6_bitCount_0f7a4_24 rfl rfl (by decide) rfl ?_
  refine x_iload_n 26 0 dJ6_bitCount_0f7a4_25 rfl rfl (by decide) rfl ?_
  refine x_iconst 27 dJ6_bitCount_0f7a4_26 rfl ?_
  refine x_iushr 28 ((p2m 858993459 (p1m 1431655765 x) / 2 ^ 4 : Nat) : Int) dJ6_bitCount_0f7a4_27 rfl (ushr_n 4 (by omega) (by decide)) ?_
  refine x_iadd 29 dJ6_bitCount_0f7a4_28 rfl ?_
  rw [show ((p2m 858993459 (p1m 1431655765 x) : Nat) : Int) + ((p2m 858993459 (p1m 1431655765 x) / 2 ^ 4 : Nat) : Int) = ((p2m 858993459 (p1m 1431655765 x) + p2m 858993459 (p1m 1431655765 x) / 16 : Nat) : Int) from rfl]
  refine x_ldcw 32 252645135 qJ6_267 dJ6_bitCount_0f7a4_29 rfl ?_
  refine x_iand 33 ((popW x : Nat) : Int) dJ6_bitCount_0f7a4_32 rfl (and_n _ _) ?_
  refine x_istore_n 34 0 _ dJ6_bitCount_0f7a4_33 rfl rfl (by decide) rfl rfl ?_
  refine x_iload_n 35 0 dJ6_bitCount_0f7a4_34 rfl rfl (by decide) rfl ?_
  refine x_iload_n 36 0 dJ6_bitCount_0f7a4_35 rfl rfl (by decide) rfl ?_
  refine x_bipush 38 dJ6_bitCount_0f7a4_36 rfl (by decide) ?_
  refine x_iushr 39 ((popW x / 2 ^ 8 : Nat) : Int) dJ6_bitCount_0f7a4_38 rfl (ushr_n 8 (by omega) (by decide)) ?_
  refine x_iadd 40 dJ6_bitCount_0f7a4_39 rfl ?_
  rw [show ((popW x : Nat) : Int) + ((popW x / 2 ^ 8 : Nat) : Int) = ((popU x : Nat) : Int) from rfl]
  refine x_istore_n 41 0 _ dJ6_bitCount_0f7a4_40 rfl rfl (by decide) rfl rfl ?_
  refine x_iload_n 42 0 dJ6_bitCount_0f7a4_41 rfl rfl (by decide) rfl ?_
  refine x_iload_n 43 0 dJ6_bitCount_0f7a4_42 rfl rfl (by decide) rfl ?_
  refine x_bipush 45 dJ6_bitCount_0f7a4_43 rfl (by decide) ?_
  refine x_iushr 46 ((popU x / 2 ^ 16 : Nat) : Int) dJ6_bitCount_0f7a4_45 rfl (ushr_n 16 (by omega) (by decide)) ?_
  refine x_iadd 47 dJ6_bitCount_0f7a4_46 rfl ?_
  rw [show ((popU x : Nat) : Int) + ((popU x / 2 ^ 16 : Nat) : Int) = ((popU x + popU x / 65536 : Nat) : Int) from rfl]
  refine x_istore_n 48 0 _ dJ6_bitCount_0f7a4_47 rfl rfl (by decide) rfl rfl ?_
  refine x_iload_n 49 0 dJ6_bitCount_0f7a4_48 rfl rfl (by decide) rfl ?_
  refine x_bipush 51 dJ6_bitCount_0f7a4_49 rfl (by decide) ?_
  refine x_iand 52 ((popJ x : Nat) : Int) dJ6_bitCount_0f7a4_51 rfl (and_n _ _) ?_
  refine x_iret dJ6_bitCount_0f7a4_52 rfl ⟨rfl, Nat.le_refl _⟩ (qp_i ?_ rfl)
  rw [popJ_eq (by omega)]
