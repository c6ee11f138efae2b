theorem jEq {x y : Int} (h : (-9223372036854775808 ≤ x ∧ x ≤ 9223372036854775807) ∧ (-9223372036854775808 ≤ y ∧ y ≤ 9223372036854775807)) : Int64.ofInt x = Int64.ofInt y ↔ x = y := by
  rw [← Int64.toInt_inj, jT h.1, jT h.2]
theorem jLt {x y : Int} (h : (-9223372036854775808 ≤ x ∧ x ≤ 9223372036854775807) ∧ (-9223372036854775808 ≤ y ∧ y ≤ 9223372036854775807)) : Int64.ofInt x < Int64.ofInt y ↔ x < y := by
  rw [Int64.lt_iff_toInt_lt, jT h.1, jT h.2]
theorem jCmp {x y : Int} (h : (-9223372036854775808 ≤ x ∧ x ≤ 9223372036854775807) ∧ (-9223372036854775808 ≤ y ∧ y ≤ 9223372036854775807)) : lg_cmp (Int64.ofInt x) (Int64.ofInt y) = Int32.ofInt (if y < x then 1 else if x = y then 0 else -1) := by
  unfold lg_cmp
  by_cases h1 : y < x
  · rw [if_pos h1, if_pos ((jLt ⟨h.2, h.1⟩).mpr h1)]; rfl
  · rw [if_neg h1, if_neg (fun q => h1 ((jLt ⟨h.2, h.1⟩).mp q))]
    by_cases h2 : x = y
    · rw [if_pos h2, if_pos ((jEq h).mpr h2)]; rfl
    · rw [if_neg h2, if_neg (fun q => h2 ((jEq h).mp q))]; rfl
theorem lN_of (n : Nat) : Int64.ofInt (n : Int) = lN n := Int64.ofInt_eq_ofNat
theorem jDiv {x y : Int} (h : 0 ≤ x ∧ x ≤ 9223372036854775807 ∧ 0 < y ∧ y ≤ 9223372036854775807) : Int64.ofInt x / Int64.ofInt y = Int64.ofInt (x / y) := by
  obtain ⟨a, rfl⟩ := Int.eq_ofNat_of_zero_le h.1
  obtain ⟨b, rfl⟩ := Int.eq_ofNat_of_zero_le (Int.le_of_lt h.2.2.1)
  rw [lN_of, lN_of, pk_lDiv (by omega) (by omega) (by omega), ← lN_of]
  rfl
theorem jRem {x y : Int} (h : 0 ≤ x ∧ x ≤ 9223372036854775807 ∧ 0 < y ∧ y ≤ 9223372036854775807) : Int64.ofInt x - Int64.ofInt x / Int64.ofInt y * Int64.ofInt y = Int64.ofInt (x % y) := by
  obtain ⟨a, rfl⟩ := Int.eq_ofNat_of_zero_le h.1
  obtain ⟨b, rfl⟩ := Int.eq_ofNat_of_zero_le (Int.le_of_lt h.2.2.1)
  rw [lN_of, lN_of, pk_lRem (by omega) (by omega) (by omega), ← lN_of]
  rfl
theorem jNe0 {y : Int} (h : 0 < y ∧ y ≤ 9223372036854775807) : ¬ Int64.ofInt y = 0 := by
  intro q
  have := (jEq (x := y) (y := 0) (by omega)).mp (by rw [q]; rfl)
  omega
theorem xCl {x : Int} {n : Nat} {f : Int → Int} (h : 0 ≤ x ∧ x < n ∧ n < 2147483648) : f (((Int32.ofInt x).toNatClampNeg : Nat) : Int) = f x := by
  rw [iClamp h, Int.toNat_of_nonneg h.1]
theorem xarr_upd {M : Mem} {i : Nat} {x v : Int} {n : Nat} (h : 0 ≤ x ∧ x < n ∧ n < 2147483648) : upd (fun j : Nat => Int32.ofInt (M i (j : Int))) (Int32.ofInt x).toNatClampNeg (Int32.ofInt v) = (fun j : Nat => Int32.ofInt (up2 M i x v i (j : Int))) := by
  funext j
  rw [iClamp h]
  unfold upd up2
  by_cases hj : j = x.toNat
  · have : (j : Int) = x := by omega
    rw [if_pos hj, if_pos ⟨rfl, this⟩]
  · have : ¬ (j : Int) = x := by omega
    simp [hj, this]
section XROWS3
variable {g : GG} {T : XT} {K : XK} {pc : Nat} {L L' : List (Option Value)} {st : List Value} {hp : Hp} {Q : Option Value → Hp → Prop} {x y z : Int} {sh : List Shp} {rf : Nat → Nat → Option Nat} {M : Mem}
theorem x_lcmp (n : Nat) (hd : decode T.2.1 pc = .ok (.lcmp, 1)) (hn : pc + 1 = n) (hr : (-9223372036854775808 ≤ x ∧ x ≤ 9223372036854775807) ∧ (-9223372036854775808 ≤ y ∧ y ≤ 9223372036854775807)) (k : ∀ v : Int, (v = 1 ∧ y < x) ∨ (v = 0 ∧ x = y) ∨ (v = -1 ∧ x < y) → X g T K n L (iv v :: st) hp Q) : X g T K pc L (jv y :: jv x :: st) hp Q := by
  subst hn
  intro p e s m args below meth c H ls locs C hI hS hl
  have k := k (if y < x then 1 else if x = y then 0 else -1) (by split; exact Or.inl ⟨rfl, by assumption⟩; split; exact Or.inr (Or.inl ⟨rfl, by assumption⟩); exact Or.inr (Or.inr ⟨rfl, by omega⟩)) p e s m args below meth c H ls locs C hI hS hl
  unfold iv at k
  rw [← jCmp hr] at k
  exact W.lcmp C.1 C.2.1 hd k
theorem x_ldiv (n : Nat) (hd : decode T.2.1 pc = .ok (.ldiv, 1)) (hn : pc + 1 = n) (hr : 0 ≤ x ∧ x ≤ 9223372036854775807 ∧ 0 < y ∧ y ≤ 9223372036854775807) (k : X g T K n L (jv (x / y) :: st) hp Q) : X g T K pc L (jv y :: jv x :: st) hp Q := by
  subst hn
  intro p e s m args below meth c H ls locs C hI hS hl
  have k := k p e s m args below meth c H ls locs C hI hS hl
  unfold jv at k ⊢
  rw [← jDiv hr] at k
  exact lv_ldiv C.1 C.2.1 hd (jNe0 hr.2.2) k
theorem x_lrem (n : Nat) (hd : decode T.2.1 pc = .ok (.lrem, 1)) (hn : pc + 1 = n) (hr : 0 ≤ x ∧ x ≤ 9223372036854775807 ∧ 0 < y ∧ y ≤ 9223372036854775807) (k : X g T K n L (jv (x % y) :: st) hp Q) : X g T K pc L (jv y :: jv x :: st) hp Q := by
  subst hn
  intro p e s m args below meth c H ls locs C hI hS hl
  have k := k p e s m args below meth c H ls locs C hI hS hl
  unfold jv at k ⊢
  rw [← jRem hr] at k
  exact lv_lrem C.1 C.2.1 hd (jNe0 hr.2.2) k
theorem x_iaload (n : Nat) {i len : Nat} (hd : decode T.2.1 pc = .ok (.iaload, 1)) (hn : pc + 1 = n) (hs : sh[i]? = some (.inr (0, len))) (hr : 0 ≤ x ∧ x < len ∧ len < 2147483648) (k : (-2147483648 ≤ M i x ∧ M i x ≤ 2147483647) → X g T K n L (iv (M i x) :: st) (sh, rf, M) Q) : X g T K pc L (iv x :: rv g i :: st) (sh, rf, M) Q := by
  subst hn
  intro p e s m args below meth c H ls locs C hI hS hl
  have k := k (hI.1.2 i x) p e s m args below meth c H ls locs C hI hS hl
  have hat := xW_at (g := g) (hp := (sh, rf, M)) hs
  refine va_iald (D := gD g) (cl := xcl) (tys := xtys g) C.1 C.2.1 C.2.2.2.2.2.2.2.1 hI.1.1 i 0 (cA := gA g 0) (n := len) (f := fun j : Nat => Int32.ofInt (M i (j : Int))) hat rfl (iIn hr) hd ?_
  rw [xCl (f := fun q => M i q) hr]
  exact k

theorem x_baload (n : Nat) {i len : Nat} (hd : decode T.2.1 pc = .ok (.baload, 1)) (hn : pc + 1 = n) (hs : sh[i]? = some (.inr (1, len))) (hr : 0 ≤ x ∧ x < len ∧ len < 2147483648) (k : (-2147483648 ≤ M i x ∧ M i x ≤ 2147483647) → X g T K n L (iv (M i x) :: st) (sh, rf, M) Q) : X g T K pc L (iv x :: rv g i :: st) (sh, rf, M) Q := by
  subst hn
  intro p e s m args below meth c H ls locs C hI hS hl
  have k := k (hI.1.2 i x) p e s m args below meth c H ls locs C hI hS hl
  have hat := xW_at (g := g) (hp := (sh, rf, M)) hs
  refine va_bald (D := gD g) (cl := xcl) (tys := xtys g) C.1 C.2.1 C.2.2.2.2.2.2.2.1 hI.1.1 i 1 (cA := gA g 1) (n := len) (f := fun j : Nat => Int32.ofInt (M i (j : Int))) hat rfl (iIn hr) hd ?_
  rw [xCl (f := fun q => M i q) hr]
  exact k

theorem x_zaload (n : Nat) {i len : Nat} (hd : decode T.2.1 pc = .ok (.baload, 1)) (hn : pc + 1 = n) (hs : sh[i]? = some (.inr (2, len))) (hr : 0 ≤ x ∧ x < len ∧ len < 2147483648) (k : (-2147483648 ≤ M i x ∧ M i x ≤ 2147483647) → X g T K n L (iv (M i x) :: st) (sh, rf, M) Q) : X g T K pc L (iv x :: rv g i :: st) (sh, rf, M) Q := by
  subst hn
  intro p e s m args below meth c H ls locs C hI hS hl
  have k := k (hI.1.2 i x) p e s m args below meth c H ls locs C hI hS hl
  have hat := xW_at (g := g) (hp := (sh, rf, M)) hs
  refine va_zald (D := gD g) (cl := xcl) (tys := xtys g) C.1 C.2.1 C.2.2.2.2.2.2.2.1 hI.1.1 i 2 (cA := gA g 2) (n := len) (f := fun j : Nat => Int32.ofInt (M i (j : Int))) hat rfl (iIn hr) hd ?_
  rw [xCl (f := fun q => M i q) hr]
  exact k

theorem x_iastore (n : Nat) {i len : Nat} {v : Int} (hd : decode T.2.1 pc = .ok (.iastore, 1)) (hn : pc + 1 = n) (hs : sh[i]? = some (.inr (0, len))) (hr : 0 ≤ x ∧ x < len ∧ len < 2147483648) (hv : -2147483648 ≤ v ∧ v ≤ 2147483647) (k : X g T K n L st (sh, rf, up2 M i x v) Q) : X g T K pc L (iv v :: iv x :: rv g i :: st) (sh, rf, M) Q := by
  subst hn
  intro p e s m args below meth c H ls locs C hI hS hl
  have hat := xW_at (g := g) (hp := (sh, rf, M)) hs
  refine va_iast (D := gD g) (cl := xcl) (tys := xtys g) C.1 C.2.1 C.2.2.2.2.2.2.2.1 hI.1.1 (xDD g _) hS i 0 (cA := gA g 0) (n := len) (f := fun j : Nat => Int32.ofInt (M i (j : Int))) hat rfl (iIn hr) hd (fun H1 locs1 hP1 _ hS1 => ?_)
  refine k p e s m args below meth c H1 ls locs1 C ⟨⟨?_, ?_⟩, hI.2⟩ hS1 hl
  · rw [xarr_upd (M := M) (i := i) (v := v) hr] at hP1
    have e := xW_upd (g := g) (hp := (sh, rf, M)) (hp' := (sh, rf, up2 M i x v)) hs rfl (fun j _ => rfl) (fun j hj => up2_o M _ _ hj)
    rw [← e]
    exact hP1
  · intro a b
    show -2147483648 ≤ up2 M i x v a b ∧ up2 M i x v a b ≤ 2147483647
    unfold up2
    split
    · exact hv
    · exact hI.1.2 a b

theorem x_bastore (n : Nat) {i len : Nat} {v : Int} (hd : decode T.2.1 pc = .ok (.bastore, 1)) (hn : pc + 1 = n) (hs : sh[i]? = some (.inr (1, len))) (hr : 0 ≤ x ∧ x < len ∧ len < 2147483648) (hv : -2147483648 ≤ v ∧ v ≤ 2147483647) (hnar : vp_nar .byte (Int32.ofInt v) = Int32.ofInt v) (k : X g T K n L st (sh, rf, up2 M i x v) Q) : X g T K pc L (iv v :: iv x :: rv g i :: st) (sh, rf, M) Q := by
  subst hn
  intro p e s m args below meth c H ls locs C hI hS hl
  have hat := xW_at (g := g) (hp := (sh, rf, M)) hs
  refine va_bast (D := gD g) (cl := xcl) (tys := xtys g) C.1 C.2.1 C.2.2.2.2.2.2.2.1 hI.1.1 (xDD g _) hS i 1 (cA := gA g 1) (n := len) (f := fun j : Nat => Int32.ofInt (M i (j : Int))) hat rfl (iIn hr) hd (fun H1 locs1 hP1 _ hS1 => ?_)
  rw [hnar] at hP1
  refine k p e s m args below meth c H1 ls locs1 C ⟨⟨?_, ?_⟩, hI.2⟩ hS1 hl
  · rw [xarr_upd (M := M) (i := i) (v := v) hr] at hP1
    have e := xW_upd (g := g) (hp := (sh, rf, M)) (hp' := (sh, rf, up2 M i x v)) hs rfl (fun j _ => rfl) (fun j hj => up2_o M _ _ hj)
    rw [← e]
    exact hP1
  · intro a b
    show -2147483648 ≤ up2 M i x v a b ∧ up2 M i x v a b ≤ 2147483647
    unfold up2
    split
    · exact hv
    · exact hI.1.2 a b

theorem x_zastore (n : Nat) {i len : Nat} {v : Int} (hd : decode T.2.1 pc = .ok (.bastore, 1)) (hn : pc + 1 = n) (hs : sh[i]? = some (.inr (2, len))) (hr : 0 ≤ x ∧ x < len ∧ len < 2147483648) (hv : -2147483648 ≤ v ∧ v ≤ 2147483647) (hnar : vp_nar .boolean (Int32.ofInt v) = Int32.ofInt v) (k : X g T K n L st (sh, rf, up2 M i x v) Q) : X g T K pc L (iv v :: iv x :: rv g i :: st) (sh, rf, M) Q := by
  subst hn
  intro p e s m args below meth c H ls locs C hI hS hl
  have hat := xW_at (g := g) (hp := (sh, rf, M)) hs
  refine va_zast (D := gD g) (cl := xcl) (tys := xtys g) C.1 C.2.1 C.2.2.2.2.2.2.2.1 hI.1.1 (xDD g _) hS i 2 (cA := gA g 2) (n := len) (f := fun j : Nat => Int32.ofInt (M i (j : Int))) hat rfl (iIn hr) hd (fun H1 locs1 hP1 _ hS1 => ?_)
  rw [hnar] at hP1
  refine k p e s m args below meth c H1 ls locs1 C ⟨⟨?_, ?_⟩, hI.2⟩ hS1 hl
  · rw [xarr_upd (M := M) (i := i) (v := v) hr] at hP1
    have e := xW_upd (g := g) (hp := (sh, rf, M)) (hp' := (sh, rf, up2 M i x v)) hs rfl (fun j _ => rfl) (fun j hj => up2_o M _ _ hj)
    rw [← e]
    exact hP1
  · intro a b
    show -2147483648 ≤ up2 M i x v a b ∧ up2 M i x v a b ≤ 2147483647
    unfold up2
    split
    · exact hv
    · exact hI.1.2 a b

theorem x_alen (n : Nat) {i t len : Nat} (h5 : t < 5) (hd : decode T.2.1 pc = .ok (.arraylength, 1)) (hn : pc + 1 = n) (hs : sh[i]? = some (.inr (t, len))) (z : Int) (hz : ((len : Nat) : Int) = z) (k : X g T K n L (iv z :: st) (sh, rf, M) Q) : X g T K pc L (rv g i :: st) (sh, rf, M) Q := by
  subst hn; subst hz
  intro p e s m args below meth c H ls locs C hI hS hl
  have k := k p e s m args below meth c H ls locs C hI hS hl
  have hat := xW_at (g := g) (hp := (sh, rf, M)) hs
  have ht : ∃ ty, (xtys g)[t]? = some (gA g t, ty) := by
    match t, h5 with
    | 0, _ => exact ⟨_, rfl⟩
    | 1, _ => exact ⟨_, rfl⟩
    | 2, _ => exact ⟨_, rfl⟩
    | 3, _ => exact ⟨_, rfl⟩
    | 4, _ => exact ⟨_, rfl⟩
  obtain ⟨ty, ht⟩ := ht
  exact va_alen (D := gD g) (cl := xcl) (tys := xtys g) C.1 C.2.1 C.2.2.2.2.2.2.2.1 hI.1.1 i t hat ht (v := Int32.ofInt (len : Int)) Int32.ofInt_eq_ofNat.symm hd k
theorem x_aaload (n : Nat) {i t len : Nat} (j : Nat) (h5 : t = 3 ∨ t = 4) (hd : decode T.2.1 pc = .ok (.aaload, 1)) (hn : pc + 1 = n) (hs : sh[i]? = some (.inr (t, len))) (hr : 0 ≤ x ∧ x < len ∧ len < 2147483648) (hj : rf i x.toNat = some j) (k : X g T K n L (rv g j :: st) (sh, rf, M) Q) : X g T K pc L (iv x :: rv g i :: st) (sh, rf, M) Q := by
  subst hn
  intro p e s m args below meth c H ls locs C hI hS hl
  have k := k p e s m args below meth c H ls locs C hI hS hl
  have hat := xW_at (g := g) (hp := (sh, rf, M)) hs
  have ev : va_rf ((rf i (Int32.ofInt x).toNatClampNeg).map (fun q => gB g + q)) = rv g j := by
    rw [iClamp hr, hj]; rfl
  rw [← ev] at k
  rcases h5 with rfl | rfl
  · exact va_aldq (D := gD g) (cl := xcl) (tys := xtys g) C.1 C.2.1 C.2.2.2.2.2.2.2.1 hI.1.1 i 3 (cA := gA g 3) (C := RX1) (n := len) (f := fun j => (rf i j).map (fun q => gB g + q)) hat rfl (iIn hr) hd k
  · exact va_aldq (D := gD g) (cl := xcl) (tys := xtys g) C.1 C.2.1 C.2.2.2.2.2.2.2.1 hI.1.1 i 4 (cA := gA g 4) (C := RX2) (n := len) (f := fun j => (rf i j).map (fun q => gB g + q)) hat rfl (iIn hr) hd k
/-! ends -/
theorem x_ret {v : Int} (ty : FieldType) (hd : decode T.2.1 pc = .ok (.ireturn, 1)) (hr : T.2.2.2 = some ty) (hnar : narrow ty (iv v) = iv v) (hk : K.2.2.1 = K.2.1.1 ∧ K.2.2.2 ≤ K.2.1.2) (q : Q (some (iv v)) hp) : X g T K pc L [iv v] hp Q := by
  intro p e s m args below meth c H ls locs C hI hS hl
  have hlk := C.2.2.2.2.2.2.1
  refine W.widen (k := K.2.1.1) (n := K.2.1.2) (Nat.le_of_eq hk.1) hk.2 ?_
  exact W.zret (v := Int32.ofInt v) C.1 C.2.1 (C.2.2.2.2.2.1.trans hr) hnar (fun t ht hW => ⟨⟨some (iv v), hp, rfl, q, by rw [ht]; exact hI.1, by rw [← hk.1]; exact hI.2⟩, hS.F ht⟩) hS.2.2 hd
theorem x_iret {v : Int} (hd : decode T.2.1 pc = .ok (.ireturn, 1)) (hr : T.2.2.2 = some .int) (hk : K.2.2.1 = K.2.1.1 ∧ K.2.2.2 ≤ K.2.1.2) (q : Q (some (iv v)) hp) : X g T K pc L [iv v] hp Q := x_ret .int hd hr rfl hk q
theorem x_zret {v : Int} (hd : decode T.2.1 pc = .ok (.ireturn, 1)) (hr : T.2.2.2 = some .boolean) (hb : v = 0 ∨ v = 1) (hk : K.2.2.1 = K.2.1.1 ∧ K.2.2.2 ≤ K.2.1.2) (q : Q (some (iv v)) hp) : X g T K pc L [iv v] hp Q :=
  x_ret .boolean hd hr (by rcases hb with rfl | rfl <;> rfl) hk q
theorem x_lret {v : Int} (hd : decode T.2.1 pc = .ok (.lreturn, 1)) (hr : T.2.2.2 = some .long) (hk : K.2.2.1 = K.2.1.1 ∧ K.2.2.2 ≤ K.2.1.2) (q : Q (some (jv v)) hp) : X g T K pc L [jv v] hp Q := by
  intro p e s m args below meth c H ls locs C hI hS hl
  have hlk := C.2.2.2.2.2.2.1
  refine W.widen (k := K.2.1.1) (n := K.2.1.2) (Nat.le_of_eq hk.1) hk.2 ?_
  exact W.lret (v := Int64.ofInt v) C.1 C.2.1 (C.2.2.2.2.2.1.trans hr) (fun t ht hW => ⟨⟨some (jv v), hp, rfl, q, by rw [ht]; exact hI.1, by rw [← hk.1]; exact hI.2⟩, hS.F ht⟩) hS.2.2 hd
theorem x_vret (hd : decode T.2.1 pc = .ok (.return_, 1)) (hr : T.2.2.2 = none) (hk : K.2.2.1 = K.2.1.1 ∧ K.2.2.2 ≤ K.2.1.2) (q : Q none hp) : X g T K pc L [] hp Q := by
  intro p e s m args below meth c H ls locs C hI hS hl
  have hlk := C.2.2.2.2.2.2.1
  refine W.widen (k := K.2.1.1) (n := K.2.1.2) (Nat.le_of_eq hk.1) hk.2 ?_
  exact W.vret C.1 C.2.1 (C.2.2.2.2.2.1.trans hr) (fun t ht hW => ⟨⟨none, hp, rfl, q, by rw [ht]; exact hI.1, by rw [← hk.1]; exact hI.2⟩, hS.F ht⟩) hS.2.2 hd
/-! calls -/
theorem x_callV (n : Nat) {T2 : XT} {d mc ms idx i ci na : Nat} (As : List Value) {stk : List Value} {Q2 : Option Value → Hp → Prop} (hc : Con g T2 d mc ms (rv g i :: As) hp Q2) (hM : MV T2 na) (hlink : Cond.methodLink T.1.cls idx T2.1 ∈ xG) (hd : decode T.2.1 pc = .ok (.invokevirtual idx, 3)) (hn : pc + 3 = n)
    (hs : hp.1[i]? = some (.inl ci)) (hci : ci < 8 ∧ xC ci = T2.1.cls) (hlen : As.length = na) (hstk : stk = As.reverse ++ rv g i :: st) (hcat : (st.map fun v => v.category).sum ≤ 8) (hroom : d + 1 ≤ K.1 ∧ K.2.2.1 + mc ≤ K.2.1.1 ∧ K.2.2.2 + ms ≤ K.2.1.2)
    (k : ∀ (v : Option Value) (hp' : Hp), Q2 v hp' → X g T (K.1, K.2.1, (K.2.2.1 + mc, K.2.2.2 + ms)) n L (v.toList ++ st) hp' Q) : X g T K pc L stk hp Q := by
  subst hn
  intro p e s m args below meth c H ls locs C hI hS hl
  obtain ⟨hx, hb, hml, hown, hts, hr, hlk, hK, hB, hnm, hZ, hR⟩ := id C
  refine W.sized (fun hup => ?_)
  have hlo := xlow hI.1 hI.2 hB hS
  have hHz : H.size = gB g + hp.1.length := by omega
  obtain ⟨⟨m1, m2, m3, m4⟩, m5, m6⟩ := hM
  have hat := xW_at (g := g) (hp := hp) hs
  have hrecv := va_recv hK hI.1.1 (xcl_at hci.1) hat
  rw [show (xC ci, xT ci, xN ci).1 = T2.1.cls from hci.2] at hrecv
  refine x_ofRun (va_runV (As := As) (rest := st) (C := T2.1.cls) (Ts := xG) (nL := T.2.2.1) (bytes := T2.2.1) (maxL := T2.2.2.1) (ret := T2.2.2.2) ⟨hx, hb, hml, hown, hts⟩ hc ⟨callB_of na hts (xgood m1) rfl rfl rfl (hts _ m2) (hts _ hlink) m3 ⟨hroom.1, ?_⟩, hts _ m5, hts _ m6⟩ ⟨xblind, hrecv, xpre C hI.1 hHz hS _⟩ rfl hlen hl.1 hstk (lv_room hcat) hd ⟨hroom.2.1, hroom.2.2⟩) hS (fun v hp' H1 locs1 hq hi hs1 => k v hp' hq p e s m args below meth c H1 ls locs1 C ⟨hi.1, ?_⟩ hs1 hl)
  · show 8 + (T2.2.2.1 + 11) + 35 * d ≤ 35 * K.1
    omega
  · show s.heap.size + (K.2.2.1 + mc) = gB g + hp'.1.length
    have := hi.2
    omega
theorem x_callS (n : Nat) {T2 : XT} {d mc ms idx na : Nat} (As : List Value) {stk : List Value} {Q2 : Option Value → Hp → Prop} (hc : Con g T2 d mc ms As hp Q2) (hM : MS T2 na) (hlink : Cond.methodLink T.1.cls idx T2.1 ∈ xG) (hd : decode T.2.1 pc = .ok (.invokestatic idx, 3)) (hn : pc + 3 = n)
    (hlen : As.length = na) (hstk : stk = As.reverse ++ st) (hcat : (st.map fun v => v.category).sum ≤ 8) (hroom : d + 1 ≤ K.1 ∧ K.2.2.1 + mc ≤ K.2.1.1 ∧ K.2.2.2 + ms ≤ K.2.1.2)
    (k : ∀ (v : Option Value) (hp' : Hp), Q2 v hp' → X g T (K.1, K.2.1, (K.2.2.1 + mc, K.2.2.2 + ms)) n L (v.toList ++ st) hp' Q) : X g T K pc L stk hp Q := by
  subst hn
  intro p e s m args below meth c H ls locs C hI hS hl
  obtain ⟨hx, hb, hml, hown, hts, hr, hlk, hK, hB, hnm, hZ, hR⟩ := id C
  refine W.sized (fun hup => ?_)
  have hlo := xlow hI.1 hI.2 hB hS
  have hHz : H.size = gB g + hp.1.length := by omega
  obtain ⟨⟨m1, m2, m3, m4⟩, m5⟩ := hM
  refine x_ofRun (va_runS (As := As) (rest := st) (Ts := xG) (nL := T.2.2.1) (bytes := T2.2.1) (maxL := T2.2.2.1) (ret := T2.2.2.2) ⟨hx, hb, hml, hown, hts⟩ hc ⟨callB_of na hts (xgood m1) rfl rfl rfl (hts _ m2) (hts _ hlink) m3 ⟨hroom.1, ?_⟩, hts _ m5⟩ ⟨xblind, xpre C hI.1 hHz hS _⟩ rfl hlen hl.1 hstk (lv_room hcat) hd ⟨hroom.2.1, hroom.2.2⟩) hS (fun v hp' H1 locs1 hq hi hs1 => k v hp' hq p e s m args below meth c H1 ls locs1 C ⟨hi.1, ?_⟩ hs1 hl)
  · show 8 + (T2.2.2.1 + 11) + 35 * d ≤ 35 * K.1
    omega
  · show s.heap.size + (K.2.2.1 + mc) = gB g + hp'.1.length
    have := hi.2
    omega
end XROWS3
