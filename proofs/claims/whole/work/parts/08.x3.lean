/-! numbers -/
theorem iT {x : Int} (h1 : -2147483648 ≤ x) (h2 : x ≤ 2147483647) : (Int32.ofInt x).toInt = x := Int32.toInt_ofInt_of_le (by omega) (by omega)
theorem iEq {x y : Int} (h : -2147483648 ≤ x ∧ x ≤ 2147483647 ∧ -2147483648 ≤ y ∧ y ≤ 2147483647) : Int32.ofInt x = Int32.ofInt y ↔ x = y := by
  rw [← Int32.toInt_inj, iT h.1 h.2.1, iT h.2.2.1 h.2.2.2]
theorem iLt {x y : Int} (h : -2147483648 ≤ x ∧ x ≤ 2147483647 ∧ -2147483648 ≤ y ∧ y ≤ 2147483647) : Int32.ofInt x < Int32.ofInt y ↔ x < y := by
  rw [Int32.lt_iff_toInt_lt, iT h.1 h.2.1, iT h.2.2.1 h.2.2.2]
theorem iLe {x y : Int} (h : -2147483648 ≤ x ∧ x ≤ 2147483647 ∧ -2147483648 ≤ y ∧ y ≤ 2147483647) : Int32.ofInt x ≤ Int32.ofInt y ↔ x ≤ y := by
  rw [Int32.le_iff_toInt_le, iT h.1 h.2.1, iT h.2.2.1 h.2.2.2]
theorem iN (n : Nat) : Int32.ofInt (n : Int) = nI n := Int32.ofInt_eq_ofNat
theorem iClamp {x : Int} {n : Nat} (h : 0 ≤ x ∧ x < n ∧ n < 2147483648) : (Int32.ofInt x).toNatClampNeg = x.toNat := by
  obtain ⟨k, rfl⟩ := Int.eq_ofNat_of_zero_le h.1
  rw [iN, nI_clamp (by omega)]
  rfl
theorem iIn {x : Int} {n : Nat} (h : 0 ≤ x ∧ x < n ∧ n < 2147483648) : vp_in (Int32.ofInt x) n := by
  obtain ⟨k, rfl⟩ := Int.eq_ofNat_of_zero_le h.1
  rw [iN]
  exact vp_in_nI (by omega) (by omega)
theorem iDiv {x y : Int} (h : 0 ≤ x ∧ x ≤ 2147483647 ∧ 0 < y ∧ y ≤ 2147483647) : Int32.ofInt x / Int32.ofInt y = Int32.ofInt (x / y) := by
  obtain ⟨a, rfl⟩ := Int.eq_ofNat_of_zero_le h.1
  obtain ⟨b, rfl⟩ := Int.eq_ofNat_of_zero_le (Int.le_of_lt h.2.2.1)
  rw [iN, iN, pk_div (by omega) (by omega) (by omega), ← iN]
  rfl
theorem iRem {x y : Int} (h : 0 ≤ x ∧ x ≤ 2147483647 ∧ 0 < y ∧ y ≤ 2147483647) : Int32.ofInt x - Int32.ofInt x / Int32.ofInt y * Int32.ofInt y = Int32.ofInt (x % y) := by
  obtain ⟨a, rfl⟩ := Int.eq_ofNat_of_zero_le h.1
  obtain ⟨b, rfl⟩ := Int.eq_ofNat_of_zero_le (Int.le_of_lt h.2.2.1)
  rw [iN, iN, pk_rem (by omega) (by omega) (by omega), ← iN]
  rfl
theorem iNe0 {y : Int} (h : 0 < y ∧ y ≤ 2147483647) : ¬ Int32.ofInt y = 0 := by
  intro q
  have := (iEq (x := y) (y := 0) (by omega)).mp (by rw [q]; rfl)
  omega
theorem i8 {n : Int} (h : -128 ≤ n ∧ n ≤ 127) : (Int8.ofInt n).toInt32 = Int32.ofInt n := by
  apply Int32.toInt_inj.mp
  rw [Int8.toInt_toInt32, Int8.toInt_ofInt_of_le (by omega) (by omega), iT (by omega) (by omega)]
theorem i16 {n : Int} (h : -32768 ≤ n ∧ n ≤ 32767) : (Int16.ofInt n).toInt32 = Int32.ofInt n := by
  apply Int32.toInt_inj.mp
  rw [Int16.toInt_toInt32, Int16.toInt_ofInt_of_le (by omega) (by omega), iT (by omega) (by omega)]
theorem jT {x : Int} (h : -9223372036854775808 ≤ x ∧ x ≤ 9223372036854775807) : (Int64.ofInt x).toInt = x := Int64.toInt_ofInt_of_le (by omega) (by omega)
theorem i2l {x : Int} (h : -2147483648 ≤ x ∧ x ≤ 2147483647) : (Int32.ofInt x).toInt64 = Int64.ofInt x := by
  apply Int64.toInt_inj.mp
  rw [Int32.toInt_toInt64, iT h.1 h.2, jT (by omega)]
def bI (c : Prop) [Decidable c] : Int := if c then 1 else 0
theorem bI_t {c : Prop} [Decidable c] (h : c) : bI c = 1 := if_pos h
theorem bI_f {c : Prop} [Decidable c] (h : ¬ c) : bI c = 0 := if_neg h
theorem bI_or (c : Prop) [Decidable c] : bI c = 0 ∨ bI c = 1 := by
  by_cases h : c
  · exact Or.inr (bI_t h)
  · exact Or.inl (bI_f h)
theorem bI_eq {c d : Prop} [Decidable c] [Decidable d] (h : c ↔ d) : bI c = bI d := by
  by_cases hc : c
  · rw [bI_t hc, bI_t (h.mp hc)]
  · rw [bI_f hc, bI_f (fun q => hc (h.mpr q))]
section XROWS
variable {g : GG} {T : XT} {K : XK} {pc : Nat} {L L' : List (Option Value)} {st : List Value} {hp : Hp} {Q : Option Value → Hp → Prop} {x y z : Int}
theorem x_iconst (n : Nat) {v : Int} (hd : decode T.2.1 pc = .ok (.iconst v, 1)) (hn : pc + 1 = n) (k : X g T K n L (iv v :: st) hp Q) : X g T K pc L st hp Q := by
  subst hn
  intro p e s m args below meth c H ls locs C hI hS hl
  exact lv_iconst C.1 C.2.1 hd rfl (k p e s m args below meth c H ls locs C hI hS hl)
theorem x_bipush (n : Nat) {v : Int} (hd : decode T.2.1 pc = .ok (.bipush v, 2)) (hn : pc + 2 = n) (hv : -128 ≤ v ∧ v ≤ 127) (k : X g T K n L (iv v :: st) hp Q) : X g T K pc L st hp Q := by
  subst hn
  intro p e s m args below meth c H ls locs C hI hS hl
  exact lv_bipush C.1 C.2.1 hd (i8 hv) (k p e s m args below meth c H ls locs C hI hS hl)
theorem x_sipush (n : Nat) {v : Int} (hd : decode T.2.1 pc = .ok (.sipush v, 3)) (hn : pc + 3 = n) (hv : -32768 ≤ v ∧ v ≤ 32767) (k : X g T K n L (iv v :: st) hp Q) : X g T K pc L st hp Q := by
  subst hn
  intro p e s m args below meth c H ls locs C hI hS hl
  exact lv_sipush C.1 C.2.1 hd (i16 hv) (k p e s m args below meth c H ls locs C hI hS hl)
theorem x_ldc (n : Nat) {i : Nat} (v : Int) (hw : Cond.constant T.1.cls i (Int32.ofInt v) ∈ xG) (hd : decode T.2.1 pc = .ok (.ldc i, 2)) (hn : pc + 2 = n) (k : X g T K n L (iv v :: st) hp Q) : X g T K pc L st hp Q := by
  subst hn
  intro p e s m args below meth c H ls locs C hI hS hl
  exact lv_ldc C.1 C.2.1 C.2.2.2.1 (C.2.2.2.2.1 _ hw) hd (k p e s m args below meth c H ls locs C hI hS hl)
theorem x_ldcw (n : Nat) {i : Nat} (v : Int) (hw : Cond.constant T.1.cls i (Int32.ofInt v) ∈ xG) (hd : decode T.2.1 pc = .ok (.ldc_w i, 3)) (hn : pc + 3 = n) (k : X g T K n L (iv v :: st) hp Q) : X g T K pc L st hp Q := by
  subst hn
  intro p e s m args below meth c H ls locs C hI hS hl
  exact lv_ldcw C.1 C.2.1 C.2.2.2.1 (C.2.2.2.2.1 _ hw) hd (k p e s m args below meth c H ls locs C hI hS hl)
theorem x_ldc2 (n : Nat) {i : Nat} (v : Int) (hw : Cond.constantLong T.1.cls i (Int64.ofInt v) ∈ xG) (hd : decode T.2.1 pc = .ok (.ldc2_w i, 3)) (hn : pc + 3 = n) (k : X g T K n L (jv v :: st) hp Q) : X g T K pc L st hp Q := by
  subst hn
  intro p e s m args below meth c H ls locs C hI hS hl
  exact lv_ldc2 C.1 C.2.1 C.2.2.2.1 (C.2.2.2.2.1 _ hw) hd (k p e s m args below meth c H ls locs C hI hS hl)
theorem x_lconst (n : Nat) {v : Fin 2} (hd : decode T.2.1 pc = .ok (.lconst v, 1)) (hn : pc + 1 = n) (z : Int) (hz : ((v : Nat) : Int) = z) (k : X g T K n L (jv z :: st) hp Q) : X g T K pc L st hp Q := by
  subst hn
  intro p e s m args below meth c H ls locs C hI hS hl
  exact lv_lconst C.1 C.2.1 hd (by rw [← hz, Int64.ofInt_eq_ofNat]) (k p e s m args below meth c H ls locs C hI hS hl)
theorem x_iload_n (n : Nat) {k : Fin 4} (i : Nat) (hd : decode T.2.1 pc = .ok (.iload_n k, 1)) (hn : pc + 1 = n) (hi : (k : Nat) = i) (hb : i < T.2.2.1) (hL : L[i]? = some (some (iv x))) (kk : X g T K n L (iv x :: st) hp Q) : X g T K pc L st hp Q := by
  subst hn
  intro p e s m args below meth c H ls locs C hI hS hl
  exact lv_iload_n C.1 C.2.1 hd hi (xL_at hl hb hL) (kk p e s m args below meth c H ls locs C hI hS hl)
theorem x_iload (n : Nat) (i : Nat) (hd : decode T.2.1 pc = .ok (.iload i, 2)) (hn : pc + 2 = n) (hb : i < T.2.2.1) (hL : L[i]? = some (some (iv x))) (kk : X g T K n L (iv x :: st) hp Q) : X g T K pc L st hp Q := by
  subst hn
  intro p e s m args below meth c H ls locs C hI hS hl
  exact lv_iload C.1 C.2.1 hd (xL_at hl hb hL) (kk p e s m args below meth c H ls locs C hI hS hl)
theorem x_lload_n (n : Nat) {k : Fin 4} (i : Nat) (hd : decode T.2.1 pc = .ok (.lload_n k, 1)) (hn : pc + 1 = n) (hi : (k : Nat) = i) (hb : i < T.2.2.1) (hL : L[i]? = some (some (jv x))) (kk : X g T K n L (jv x :: st) hp Q) : X g T K pc L st hp Q := by
  subst hn
  intro p e s m args below meth c H ls locs C hI hS hl
  exact lv_lload_n C.1 C.2.1 hd hi (xL_at hl hb hL) (kk p e s m args below meth c H ls locs C hI hS hl)
theorem x_lload (n : Nat) (i : Nat) (hd : decode T.2.1 pc = .ok (.lload i, 2)) (hn : pc + 2 = n) (hb : i < T.2.2.1) (hL : L[i]? = some (some (jv x))) (kk : X g T K n L (jv x :: st) hp Q) : X g T K pc L st hp Q := by
  subst hn
  intro p e s m args below meth c H ls locs C hI hS hl
  exact lv_lload C.1 C.2.1 hd (xL_at hl hb hL) (kk p e s m args below meth c H ls locs C hI hS hl)
theorem x_aload_n (n : Nat) {k : Fin 4} (i : Nat) {a : Nat} (hd : decode T.2.1 pc = .ok (.aload_n k, 1)) (hn : pc + 1 = n) (hi : (k : Nat) = i) (hb : i < T.2.2.1) (hL : L[i]? = some (some (rv g a))) (kk : X g T K n L (rv g a :: st) hp Q) : X g T K pc L st hp Q := by
  subst hn
  intro p e s m args below meth c H ls locs C hI hS hl
  exact lv_aload_n C.1 C.2.1 hd hi (xL_at hl hb hL) (kk p e s m args below meth c H ls locs C hI hS hl)
theorem x_aload (n : Nat) (i : Nat) {a : Nat} (hd : decode T.2.1 pc = .ok (.aload i, 2)) (hn : pc + 2 = n) (hb : i < T.2.2.1) (hL : L[i]? = some (some (rv g a))) (kk : X g T K n L (rv g a :: st) hp Q) : X g T K pc L st hp Q := by
  subst hn
  intro p e s m args below meth c H ls locs C hI hS hl
  exact lv_aload C.1 C.2.1 hd (xL_at hl hb hL) (kk p e s m args below meth c H ls locs C hI hS hl)
theorem x_istore_n (n : Nat) {k : Fin 4} (i : Nat) (L' : List (Option Value)) (hd : decode T.2.1 pc = .ok (.istore_n k, 1)) (hn : pc + 1 = n) (hi : (k : Nat) = i) (hb : i < T.2.2.1) (ho : xok L i = true) (hL : L.set i (some (iv x)) = L') (kk : X g T K n L' st hp Q) : X g T K pc L (iv x :: st) hp Q := by
  subst hn; subst hL
  intro p e s m args below meth c H ls locs C hI hS hl
  exact lv_istore_n C.1 C.2.1 hd hi hl hb rfl (fun ls' h => kk p e s m args below meth c H ls' locs C hI hS (xL_store1 ho h))
theorem x_istore (n : Nat) (i : Nat) (L' : List (Option Value)) (hd : decode T.2.1 pc = .ok (.istore i, 2)) (hn : pc + 2 = n) (hb : i < T.2.2.1) (ho : xok L i = true) (hL : L.set i (some (iv x)) = L') (kk : X g T K n L' st hp Q) : X g T K pc L (iv x :: st) hp Q := by
  subst hn; subst hL
  intro p e s m args below meth c H ls locs C hI hS hl
  exact lv_istore C.1 C.2.1 hd hl hb rfl (fun ls' h => kk p e s m args below meth c H ls' locs C hI hS (xL_store1 ho h))
theorem x_astore_n (n : Nat) {k : Fin 4} (i : Nat) {a : Nat} (L' : List (Option Value)) (hd : decode T.2.1 pc = .ok (.astore_n k, 1)) (hn : pc + 1 = n) (hi : (k : Nat) = i) (hb : i < T.2.2.1) (ho : xok L i = true) (hL : L.set i (some (rv g a)) = L') (kk : X g T K n L' st hp Q) : X g T K pc L (rv g a :: st) hp Q := by
  subst hn; subst hL
  intro p e s m args below meth c H ls locs C hI hS hl
  exact lv_astore_n C.1 C.2.1 hd hi hl hb rfl (fun ls' h => kk p e s m args below meth c H ls' locs C hI hS (xL_store1 ho h))
theorem x_astore (n : Nat) (i : Nat) {a : Nat} (L' : List (Option Value)) (hd : decode T.2.1 pc = .ok (.astore i, 2)) (hn : pc + 2 = n) (hb : i < T.2.2.1) (ho : xok L i = true) (hL : L.set i (some (rv g a)) = L') (kk : X g T K n L' st hp Q) : X g T K pc L (rv g a :: st) hp Q := by
  subst hn; subst hL
  intro p e s m args below meth c H ls locs C hI hS hl
  exact lv_astore C.1 C.2.1 hd hl hb rfl (fun ls' h => kk p e s m args below meth c H ls' locs C hI hS (xL_store1 ho h))
theorem x_lstore_n (n : Nat) {k : Fin 4} (i : Nat) (L' : List (Option Value)) (hd : decode T.2.1 pc = .ok (.lstore_n k, 1)) (hn : pc + 1 = n) (hi : (k : Nat) = i) (hb : i + 1 < T.2.2.1) (ho : xok L i = true) (hL : (L.set i (some (jv x))).set (i + 1) none = L') (kk : X g T K n L' st hp Q) : X g T K pc L (jv x :: st) hp Q := by
  subst hn; subst hL
  intro p e s m args below meth c H ls locs C hI hS hl
  exact lv_lstore_n C.1 C.2.1 hd hi hl hb rfl (fun ls' h => kk p e s m args below meth c H ls' locs C hI hS (xL_store2 ho h))
theorem x_lstore (n : Nat) (i : Nat) (L' : List (Option Value)) (hd : decode T.2.1 pc = .ok (.lstore i, 2)) (hn : pc + 2 = n) (hb : i + 1 < T.2.2.1) (ho : xok L i = true) (hL : (L.set i (some (jv x))).set (i + 1) none = L') (kk : X g T K n L' st hp Q) : X g T K pc L (jv x :: st) hp Q := by
  subst hn; subst hL
  intro p e s m args below meth c H ls locs C hI hS hl
  exact lv_lstore C.1 C.2.1 hd hl hb rfl (fun ls' h => kk p e s m args below meth c H ls' locs C hI hS (xL_store2 ho h))
theorem x_iinc (n : Nat) {i : Nat} {v : Int} (L' : List (Option Value)) (hd : decode T.2.1 pc = .ok (.iinc i v, 3)) (hn : pc + 3 = n) (hb : i < T.2.2.1) (ho : xok L i = true) (hv : L[i]? = some (some (iv x))) (hL : L.set i (some (iv (x + v))) = L') (kk : X g T K n L' st hp Q) : X g T K pc L st hp Q := by
  subst hn; subst hL
  intro p e s m args below meth c H ls locs C hI hS hl
  obtain ⟨j, hj⟩ := List.getElem?_of_mem (xLp_mem hb hv)
  exact lv_iinc C.1 C.2.1 hd hl hj (v := Int32.ofInt (x + v)) (by rw [Int32.ofInt_add]) hb rfl (fun ls' h => kk p e s m args below meth c H ls' locs C hI hS (xL_store1 ho h))
theorem x_iadd (n : Nat) (hd : decode T.2.1 pc = .ok (.iadd, 1)) (hn : pc + 1 = n) (k : X g T K n L (iv (x + y) :: st) hp Q) : X g T K pc L (iv y :: iv x :: st) hp Q := by
  subst hn
  intro p e s m args below meth c H ls locs C hI hS hl
  have k := k p e s m args below meth c H ls locs C hI hS hl
  unfold iv at k ⊢
  rw [Int32.ofInt_add] at k
  exact lv_iadd C.1 C.2.1 hd k
theorem x_isub (n : Nat) (hd : decode T.2.1 pc = .ok (.isub, 1)) (hn : pc + 1 = n) (k : X g T K n L (iv (x - y) :: st) hp Q) : X g T K pc L (iv y :: iv x :: st) hp Q := by
  subst hn
  intro p e s m args below meth c H ls locs C hI hS hl
  have k := k p e s m args below meth c H ls locs C hI hS hl
  unfold iv at k ⊢
  rw [Int32.ofInt_sub] at k
  exact lv_isub C.1 C.2.1 hd k
theorem x_imul (n : Nat) (hd : decode T.2.1 pc = .ok (.imul, 1)) (hn : pc + 1 = n) (k : X g T K n L (iv (x * y) :: st) hp Q) : X g T K pc L (iv y :: iv x :: st) hp Q := by
  subst hn
  intro p e s m args below meth c H ls locs C hI hS hl
  have k := k p e s m args below meth c H ls locs C hI hS hl
  unfold iv at k ⊢
  rw [Int32.ofInt_mul] at k
  exact lv_imul C.1 C.2.1 hd k
theorem x_idiv (n : Nat) (hd : decode T.2.1 pc = .ok (.idiv, 1)) (hn : pc + 1 = n) (hr : 0 ≤ x ∧ x ≤ 2147483647 ∧ 0 < y ∧ y ≤ 2147483647) (k : X g T K n L (iv (x / y) :: st) hp Q) : X g T K pc L (iv y :: iv x :: st) hp Q := by
  subst hn
  intro p e s m args below meth c H ls locs C hI hS hl
  have k := k p e s m args below meth c H ls locs C hI hS hl
  unfold iv at k ⊢
  rw [← iDiv hr] at k
  exact lv_idiv C.1 C.2.1 hd (iNe0 hr.2.2) k
theorem x_irem (n : Nat) (hd : decode T.2.1 pc = .ok (.irem, 1)) (hn : pc + 1 = n) (hr : 0 ≤ x ∧ x ≤ 2147483647 ∧ 0 < y ∧ y ≤ 2147483647) (k : X g T K n L (iv (x % y) :: st) hp Q) : X g T K pc L (iv y :: iv x :: st) hp Q := by
  subst hn
  intro p e s m args below meth c H ls locs C hI hS hl
  have k := k p e s m args below meth c H ls locs C hI hS hl
  unfold iv at k ⊢
  rw [← iRem hr] at k
  exact lv_irem C.1 C.2.1 hd (iNe0 hr.2.2) k
theorem x_ishl (n : Nat) (z : Int) (hd : decode T.2.1 pc = .ok (.ishl, 1)) (hn : pc + 1 = n) (hz : Int32.ofInt x <<< (Int32.ofInt y &&& 31) = Int32.ofInt z) (k : X g T K n L (iv z :: st) hp Q) : X g T K pc L (iv y :: iv x :: st) hp Q := by
  subst hn
  intro p e s m args below meth c H ls locs C hI hS hl
  have k := k p e s m args below meth c H ls locs C hI hS hl
  unfold iv at k ⊢
  rw [← hz] at k
  exact lv_ishl C.1 C.2.1 hd k
theorem x_ishr (n : Nat) (z : Int) (hd : decode T.2.1 pc = .ok (.ishr, 1)) (hn : pc + 1 = n) (hz : Int32.ofInt x >>> (Int32.ofInt y &&& 31) = Int32.ofInt z) (k : X g T K n L (iv z :: st) hp Q) : X g T K pc L (iv y :: iv x :: st) hp Q := by
  subst hn
  intro p e s m args below meth c H ls locs C hI hS hl
  have k := k p e s m args below meth c H ls locs C hI hS hl
  unfold iv at k ⊢
  rw [← hz] at k
  exact lv_ishr C.1 C.2.1 hd k
theorem x_iushr (n : Nat) (z : Int) (hd : decode T.2.1 pc = .ok (.iushr, 1)) (hn : pc + 1 = n) (hz : ((Int32.ofInt x).toUInt32 >>> ((Int32.ofInt y).toUInt32 &&& Int32.toUInt32 31)).toInt32 = Int32.ofInt z) (k : X g T K n L (iv z :: st) hp Q) : X g T K pc L (iv y :: iv x :: st) hp Q := by
  subst hn
  intro p e s m args below meth c H ls locs C hI hS hl
  exact lv_iushr C.1 C.2.1 hd hz (k p e s m args below meth c H ls locs C hI hS hl)
theorem x_iand (n : Nat) (z : Int) (hd : decode T.2.1 pc = .ok (.iand, 1)) (hn : pc + 1 = n) (hz : Int32.ofInt x &&& Int32.ofInt y = Int32.ofInt z) (k : X g T K n L (iv z :: st) hp Q) : X g T K pc L (iv y :: iv x :: st) hp Q := by
  subst hn
  intro p e s m args below meth c H ls locs C hI hS hl
  have k := k p e s m args below meth c H ls locs C hI hS hl
  unfold iv at k ⊢
  rw [← hz] at k
  exact lv_iand C.1 C.2.1 hd k
theorem x_ior (n : Nat) (z : Int) (hd : decode T.2.1 pc = .ok (.ior, 1)) (hn : pc + 1 = n) (hz : Int32.ofInt x ||| Int32.ofInt y = Int32.ofInt z) (k : X g T K n L (iv z :: st) hp Q) : X g T K pc L (iv y :: iv x :: st) hp Q := by
  subst hn
  intro p e s m args below meth c H ls locs C hI hS hl
  have k := k p e s m args below meth c H ls locs C hI hS hl
  unfold iv at k ⊢
  rw [← hz] at k
  exact lv_ior C.1 C.2.1 hd k
theorem x_ixor (n : Nat) (z : Int) (hd : decode T.2.1 pc = .ok (.ixor, 1)) (hn : pc + 1 = n) (hz : Int32.ofInt x ^^^ Int32.ofInt y = Int32.ofInt z) (k : X g T K n L (iv z :: st) hp Q) : X g T K pc L (iv y :: iv x :: st) hp Q := by
  subst hn
  intro p e s m args below meth c H ls locs C hI hS hl
  have k := k p e s m args below meth c H ls locs C hI hS hl
  unfold iv at k ⊢
  rw [← hz] at k
  exact lv_ixor C.1 C.2.1 hd k
theorem x_i2b (n : Nat) (z : Int) (hd : decode T.2.1 pc = .ok (.i2b, 1)) (hn : pc + 1 = n) (hz : (Int32.ofInt x).toInt8.toInt32 = Int32.ofInt z) (k : X g T K n L (iv z :: st) hp Q) : X g T K pc L (iv x :: st) hp Q := by
  subst hn
  intro p e s m args below meth c H ls locs C hI hS hl
  exact lv_i2b C.1 C.2.1 hd hz (k p e s m args below meth c H ls locs C hI hS hl)
theorem x_i2s (n : Nat) (z : Int) (hd : decode T.2.1 pc = .ok (.i2s, 1)) (hn : pc + 1 = n) (hz : (Int32.ofInt x).toInt16.toInt32 = Int32.ofInt z) (k : X g T K n L (iv z :: st) hp Q) : X g T K pc L (iv x :: st) hp Q := by
  subst hn
  intro p e s m args below meth c H ls locs C hI hS hl
  exact lv_i2s C.1 C.2.1 hd hz (k p e s m args below meth c H ls locs C hI hS hl)
theorem x_i2l (n : Nat) (hd : decode T.2.1 pc = .ok (.i2l, 1)) (hn : pc + 1 = n) (hr : -2147483648 ≤ x ∧ x ≤ 2147483647) (k : X g T K n L (jv x :: st) hp Q) : X g T K pc L (iv x :: st) hp Q := by
  subst hn
  intro p e s m args below meth c H ls locs C hI hS hl
  exact lv_i2l C.1 C.2.1 hd (i2l hr) (k p e s m args below meth c H ls locs C hI hS hl)
theorem x_ladd (n : Nat) (hd : decode T.2.1 pc = .ok (.ladd, 1)) (hn : pc + 1 = n) (k : X g T K n L (jv (x + y) :: st) hp Q) : X g T K pc L (jv y :: jv x :: st) hp Q := by
  subst hn
  intro p e s m args below meth c H ls locs C hI hS hl
  have k := k p e s m args below meth c H ls locs C hI hS hl
  unfold jv at k ⊢
  rw [Int64.ofInt_add] at k
  exact lv_ladd C.1 C.2.1 hd k
theorem x_lmul (n : Nat) (hd : decode T.2.1 pc = .ok (.lmul, 1)) (hn : pc + 1 = n) (k : X g T K n L (jv (x * y) :: st) hp Q) : X g T K pc L (jv y :: jv x :: st) hp Q := by
  subst hn
  intro p e s m args below meth c H ls locs C hI hS hl
  have k := k p e s m args below meth c H ls locs C hI hS hl
  unfold jv at k ⊢
  rw [Int64.ofInt_mul] at k
  exact lv_lmul C.1 C.2.1 hd k
theorem x_dup (n : Nat) {v : Value} (hd : decode T.2.1 pc = .ok (.dup, 1)) (hn : pc + 1 = n) (hv : v.category = 1) (k : X g T K n L (v :: v :: st) hp Q) : X g T K pc L (v :: st) hp Q := by
  subst hn
  intro p e s m args below meth c H ls locs C hI hS hl
  exact lv_dup C.1 C.2.1 hd hv (k p e s m args below meth c H ls locs C hI hS hl)
theorem x_dup2 (n : Nat) {v w : Value} (hd : decode T.2.1 pc = .ok (.dup2, 1)) (hn : pc + 1 = n) (hv : v.category = 1) (hw : w.category = 1) (k : X g T K n L (v :: w :: v :: w :: st) hp Q) : X g T K pc L (v :: w :: st) hp Q := by
  subst hn
  intro p e s m args below meth c H ls locs C hI hS hl
  exact lv_dup2_11 C.1 C.2.1 hd hv hw (k p e s m args below meth c H ls locs C hI hS hl)
theorem x_pop (n : Nat) {v : Value} (hd : decode T.2.1 pc = .ok (.pop, 1)) (hn : pc + 1 = n) (hv : v.category = 1) (k : X g T K n L st hp Q) : X g T K pc L (v :: st) hp Q := by
  subst hn
  intro p e s m args below meth c H ls locs C hI hS hl
  exact lv_pop C.1 C.2.1 hd hv (k p e s m args below meth c H ls locs C hI hS hl)
theorem x_goto (t : Nat) {off : Int} (hd : decode T.2.1 pc = .ok (.goto off, 3)) (ht : (pc : Int) + off = (t : Int)) (k : X g T K t L st hp Q) : X g T K pc L st hp Q := by
  intro p e s m args below meth c H ls locs C hI hS hl
  exact lv_goto C.1 C.2.1 hd ht (k p e s m args below meth c H ls locs C hI hS hl)
end XROWS
