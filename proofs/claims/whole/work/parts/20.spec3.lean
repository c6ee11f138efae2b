/-! bits -/
theorem bt_s31 : ∀ n, n < 32 → ((nI n &&& 31).toBitVec.smod 32).toNat = n := by decide +kernel
theorem shl1 {k : Nat} (h : k < 31) : Int32.ofInt 1 <<< (Int32.ofInt (k : Int) &&& 31) = Int32.ofInt ((2 ^ k : Nat) : Int) := by
  have h1 : 2 ^ k < 2 ^ 31 := Nat.pow_lt_pow_right (by omega) h
  rw [iN, show Int32.ofInt 1 = nI 1 from rfl, pk_shlN (n := 1) _ k (bt_s31 k (by omega)) (by omega), iN, Nat.one_mul]
theorem nI_or (a b : Nat) : nI a ||| nI b = nI (a ||| b) := by
  apply Int32.toBitVec_inj.mp
  show (nI a).toBitVec ||| (nI b).toBitVec = (nI (a ||| b)).toBitVec
  show BitVec.ofNat 32 a ||| BitVec.ofNat 32 b = BitVec.ofNat 32 (a ||| b)
  apply BitVec.eq_of_toNat_eq
  simp [BitVec.toNat_ofNat, Nat.or_mod_two_pow]
theorem or_bit {a k : Nat} (h : a < 2 ^ k) : Int32.ofInt (a : Int) ||| Int32.ofInt ((2 ^ k : Nat) : Int) = Int32.ofInt ((a + 2 ^ k : Nat) : Int) := by
  rw [iN, iN, iN, nI_or]
  have := Nat.two_pow_add_eq_or_of_lt h 1
  rw [Nat.mul_one] at this
  rw [Nat.or_comm, ← this, Nat.add_comm]
theorem shr_bit {a k : Nat} (ha : a < 2147483648) (h : k < 32) : Int32.ofInt (a : Int) >>> (Int32.ofInt (k : Int) &&& 31) = Int32.ofInt ((a / 2 ^ k : Nat) : Int) := by
  rw [iN, iN, pk_shrN (by omega) _ k (bt_s31 k h), iN]
theorem and_1 {a : Nat} (ha : a < 2147483648) : Int32.ofInt (a : Int) &&& Int32.ofInt 1 = Int32.ofInt ((a % 2 : Nat) : Int) := by
  rw [iN, iN]
  exact pk_andN (by omega) 1 rfl
/-- bits of the places below n at which p holds -/
def bitN (p : Nat → Bool) : Nat → Nat
  | 0 => 0
  | n + 1 => bitN p n + (if p n then 2 ^ n else 0)
theorem bitN_lt (p : Nat → Bool) : ∀ n, bitN p n < 2 ^ n
  | 0 => by simp [bitN]
  | n + 1 => by
    have := bitN_lt p n
    show bitN p n + _ < 2 ^ (n + 1)
    rw [Nat.pow_succ]
    split <;> omega
theorem bitN_cong {p q : Nat → Bool} : ∀ n, (∀ k, k < n → p k = q k) → bitN p n = bitN q n
  | 0, _ => rfl
  | n + 1, h => by
    show bitN p n + _ = bitN q n + _
    rw [bitN_cong n (fun k hk => h k (by omega)), h n (by omega)]
def anyN (p : Nat → Bool) : Nat → Bool
  | 0 => false
  | n + 1 => anyN p n || p n
theorem anyN_t {p : Nat → Bool} : ∀ {n k : Nat}, k < n → p k = true → anyN p n = true
  | 0, k, h, _ => by omega
  | n + 1, k, h, hp => by
    show (anyN p n || p n) = true
    by_cases e : k = n
    · subst e; rw [hp]; simp
    · rw [anyN_t (n := n) (k := k) (by omega) hp]; simp
theorem anyN_f {p : Nat → Bool} : ∀ {n : Nat}, (∀ k, k < n → p k = false) → anyN p n = false
  | 0, _ => rfl
  | n + 1, h => by
    show (anyN p n || p n) = false
    rw [anyN_f (fun k hk => h k (by omega)), h n (by omega)]; rfl
/-- the first place below n at which p holds, or -4 -/
def firstN (p : Nat → Bool) : Nat → Int
  | 0 => -4
  | n + 1 => if firstN p n = -4 then (if p n then (n : Int) else -4) else firstN p n
theorem firstN_no {p : Nat → Bool} : ∀ {n : Nat}, (∀ k, k < n → p k = false) → firstN p n = -4
  | 0, _ => rfl
  | n + 1, h => by
    show (if firstN p n = -4 then (if p n then (n : Int) else -4) else firstN p n) = -4
    rw [firstN_no (fun k hk => h k (by omega)), if_pos rfl, h n (by omega)]; rfl
theorem firstN_at {p : Nat → Bool} {k : Nat} (h0 : ∀ j, j < k → p j = false) (hp : p k = true) : ∀ {n : Nat}, k < n → firstN p n = k
  | 0, h => by omega
  | n + 1, h => by
    show (if firstN p n = -4 then (if p n then (n : Int) else -4) else firstN p n) = k
    by_cases e : k = n
    · subst e
      rw [firstN_no h0, if_pos rfl, if_pos hp]
    · rw [firstN_at h0 hp (n := n) (by omega), if_neg (by omega)]
def pairOK (v : LV) (a b : Int) : Prop := (0 ≤ a ∧ a < vn v) ∧ (0 ≤ b ∧ b < vn v) ∧ a ≠ b
def pairB (v : LV) (a b : Int) : Bool := decide ((0 ≤ a ∧ a < vn v) ∧ (0 ≤ b ∧ b < vn v) ∧ a ≠ b)
def addF (v : LV) (a b : Int) : LV := (vn v, vf v + 1, vw v, vK v, vS v, vL v, vO v, fu (vA v) (vf v) a, fu (vB v) (vf v) b)
def addT (v : LV) (k s : Int) : LV := (vn v + 1, vf v, vw v, fu (vK v) (vn v) k, fu (vS v) (vn v) s, fu (vL v) (vn v) 0, fu (vO v) (vn v) 0, vA v, vB v)
def addR (v : LV) : Int := if 10 ≤ vf v then -3 else vf v + 1
def addV (v : LV) (a b : Int) : LV := if 10 ≤ vf v then v else addF v a b
def bookR (v : LV) (a b : Int) : Int := if pairB v a b then addR v else -1
def bookV (v : LV) (a b : Int) : LV := if pairB v a b then addV v a b else v
def swapV (v : LV) (i j : Int) : LV := setB (setA v (fu (fu (vA v) i (vA v j)) j (vA v i))) (fu (fu (vB v) i (vB v j)) j (vB v i))
def lendR (v : LV) (a b n : Int) : Int := if vS v a < n then -2 else if 20 < vS v b + n then -3 else vS v a - n
def lendV (v : LV) (a b n : Int) : LV := if vS v a < n then v else if 20 < vS v b + n then v else setS v (fu (fu (vS v) a (vS v a - n)) b (vS v b + n))
def lossB (v : LV) : Nat := bitN (fun t => decide (0 < vL v t)) (vn v).toNat
def lackB (v : LV) : Bool := anyN (fun i => !pairB v (vA v i) (vB v i)) (vf v).toNat
def flN (v : LV) (t : Int) (n : Nat) : Int := firstN (fun i => decide (wkL (goV v i) 0 = t)) n
/-- part of a league copied -/
def PB (M : Mem) (o : Nat) (v : LV) (i j : Int) : Prop := M o 6 = vn v ∧ M o 7 = vf v ∧ M o 8 = vw v ∧ (∀ t, 0 ≤ t → t < i → M (o + 1) t = vK v t ∧ M (o + 2) t = vS v t ∧ M (o + 3) t = vL v t ∧ M (o + 4) t = vO v t) ∧ (∀ t, 0 ≤ t → t < j → M (o + 5) t = vA v t ∧ M (o + 6) t = vB v t)
theorem PB_t {M : Mem} {o : Nat} {v : LV} {i x1 x2 x3 x4 : Int} (h : PB M o v i 0) (e1 : x1 = vK v i) (e2 : x2 = vS v i) (e3 : x3 = vL v i) (e4 : x4 = vO v i) : PB (up2 (up2 (up2 (up2 M (o + 1) i x1) (o + 2) i x2) (o + 3) i x3) (o + 4) i x4) o v (i + 1) 0 := by
  obtain ⟨h1, h2, h3, h4, h5⟩ := h
  have q : up2 (up2 (up2 (up2 M (o + 1) i x1) (o + 2) i x2) (o + 3) i x3) (o + 4) i x4 o = M o := by
    rw [up2_o _ _ _ (by omega), up2_o _ _ _ (by omega), up2_o _ _ _ (by omega), up2_o _ _ _ (by omega)]
  refine ⟨by rw [q]; exact h1, by rw [q]; exact h2, by rw [q]; exact h3, fun t a b => ?_, fun t a b => by omega⟩
  have q1 : up2 (up2 (up2 (up2 M (o + 1) i x1) (o + 2) i x2) (o + 3) i x3) (o + 4) i x4 (o + 1) t = if t = i then x1 else M (o + 1) t := by
    rw [up2_o _ _ _ (by omega), up2_o _ _ _ (by omega), up2_o _ _ _ (by omega), up2_i]
  have q2 : up2 (up2 (up2 (up2 M (o + 1) i x1) (o + 2) i x2) (o + 3) i x3) (o + 4) i x4 (o + 2) t = if t = i then x2 else M (o + 2) t := by
    rw [up2_o _ _ _ (by omega), up2_o _ _ _ (by omega), up2_i, up2_o _ _ _ (by omega)]
  have q3 : up2 (up2 (up2 (up2 M (o + 1) i x1) (o + 2) i x2) (o + 3) i x3) (o + 4) i x4 (o + 3) t = if t = i then x3 else M (o + 3) t := by
    rw [up2_o _ _ _ (by omega), up2_i, up2_o _ _ _ (by omega), up2_o _ _ _ (by omega)]
  have q4 : up2 (up2 (up2 (up2 M (o + 1) i x1) (o + 2) i x2) (o + 3) i x3) (o + 4) i x4 (o + 4) t = if t = i then x4 else M (o + 4) t := by
    rw [up2_i, up2_o _ _ _ (by omega), up2_o _ _ _ (by omega), up2_o _ _ _ (by omega)]
  rw [q1, q2, q3, q4]
  by_cases e : t = i
  · subst e
    rw [if_pos rfl, if_pos rfl, if_pos rfl, if_pos rfl]
    exact ⟨e1, e2, e3, e4⟩
  · rw [if_neg e, if_neg e, if_neg e, if_neg e]
    exact h4 t a (by omega)
theorem PB_i {M : Mem} {o : Nat} {v : LV} {n j x1 x2 : Int} (h : PB M o v n j) (e1 : x1 = vA v j) (e2 : x2 = vB v j) : PB (up2 (up2 M (o + 5) j x1) (o + 6) j x2) o v n (j + 1) := by
  obtain ⟨h1, h2, h3, h4, h5⟩ := h
  have q : ∀ k, k < 5 → up2 (up2 M (o + 5) j x1) (o + 6) j x2 (o + k) = M (o + k) := fun k hk => by
    rw [up2_o _ _ _ (by omega), up2_o _ _ _ (by omega)]
  have q0 : up2 (up2 M (o + 5) j x1) (o + 6) j x2 o = M o := q 0 (by omega)
  refine ⟨by rw [q0]; exact h1, by rw [q0]; exact h2, by rw [q0]; exact h3, fun t a b => ?_, fun t a b => ?_⟩
  · rw [q 1 (by omega), q 2 (by omega), q 3 (by omega), q 4 (by omega)]; exact h4 t a b
  · have q5 : up2 (up2 M (o + 5) j x1) (o + 6) j x2 (o + 5) t = if t = j then x1 else M (o + 5) t := by rw [up2_o _ _ _ (by omega), up2_i]
    have q6 : up2 (up2 M (o + 5) j x1) (o + 6) j x2 (o + 6) t = if t = j then x2 else M (o + 6) t := by rw [up2_i, up2_o _ _ _ (by omega)]
    rw [q5, q6]
    by_cases e : t = j
    · subst e
      rw [if_pos rfl, if_pos rfl]; exact ⟨e1, e2⟩
    · rw [if_neg e, if_neg e]; exact h5 t a (by omega)
theorem lg_apart {o p : Nat} (ho : isLg o) (hp : isLg p) (h : o ≠ p) : ∀ k, k ≤ 6 → p + k < o ∨ o + 6 < p + k := by
  intro k hk
  rcases ho with rfl | rfl | rfl | rfl <;> rcases hp with rfl | rfl | rfl | rfl <;> omega
