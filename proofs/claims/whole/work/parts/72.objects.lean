def rf7 : Nat → Nat → Option Nat := (upr (upr (upr (upr (upr (upr (upr (upr (upr (upr (upr (upr rf6 50 0 (some 51)) 50 2 (some 52)) 50 5 (some 53)) 50 14 (some 54)) 50 15 (some 55)) 50 20 (some 56)) 50 21 (some 57)) 50 23 (some 58)) 50 24 (some 59)) 50 25 (some 60)) 50 26 (some 61)) 50 27 (some 62))
def m7 : Mem := (up2 (up2 (up2 (up2 (up2 (up2 (up2 (up2 (up2 (up2 (up2 (up2 (up2 (up2 (up2 (up2 (up2 (up2 (up2 (up2 (up2 (up2 (up2 (up2 (up2 (up2 (up2 (up2 (up2 (up2 (up2 (up2 (up2 (up2 (up2 (up2 (up2 m6 54 0 (0)) 54 1 (5)) 54 2 (10)) 54 3 (14)) 54 4 (22)) 54 5 (26)) 55 0 (112)) 55 1 (108)) 55 2 (97)) 55 3 (105)) 55 4 (110)) 55 5 (112)) 55 6 (114)) 55 7 (111)) 55 8 (117)) 55 9 (100)) 55 10 (119)) 55 11 (105)) 55 12 (115)) 55 13 (101)) 55 14 (99)) 55 15 (97)) 55 16 (114)) 55 17 (101)) 55 18 (108)) 55 19 (101)) 55 20 (115)) 55 21 (115)) 55 22 (103)) 55 23 (97)) 55 24 (109)) 55 25 (101)) 50 19 (-4)) 60 0 (-4)) 60 1 (-4)) 60 2 (-4)) 60 3 (-4))
theorem rf7_fin : ∀ a, a < 63 → ∀ k, k < 30 → rf7 a k = R0 a k := by decide +kernel
def Out (rf : Nat → Nat → Option Nat) : Prop := ∀ a k, (63 ≤ a ∨ 30 ≤ k) → rf a k = none
theorem Out_upr {rf : Nat → Nat → Option Nat} {i k : Nat} {v : Option Nat} (h : Out rf) (hi : i < 63) (hk : k < 30) : Out (upr rf i k v) := fun a q hq => by
  unfold upr
  rw [if_neg (by omega)]; exact h a q hq
theorem rf7_out : Out rf7 := by
  unfold rf7 rf6
  repeat (refine Out_upr ?_ (by decide) (by decide))
  exact fun _ _ _ => rfl
theorem R0t_len : R0t.length = 63 ∧ ∀ a, a < 63 → (R0t.getD a []).length ≤ 30 := by decide +kernel
theorem R0_out : Out R0 := fun a k h => by
  have hz : (R0t.getD a []).length ≤ k := by
    by_cases ha : a < 63
    · have := R0t_len.2 a ha
      omega
    · have h1 : R0t[a]? = none := List.getElem?_eq_none (by rw [R0t_len.1]; omega)
      rw [List.getD_eq_getElem?_getD, h1]
      exact Nat.zero_le _
  show (R0t.getD a []).getD k none = none
  rw [List.getD_eq_getElem?_getD, List.getElem?_eq_none hz]
  rfl
theorem rf7_eq : rf7 = R0 := by
  funext a k
  by_cases h : 63 ≤ a ∨ 30 ≤ k
  · rw [rf7_out a k h, R0_out a k h]
  · exact rf7_fin a (by omega) k (by omega)
def w0 : ST := (LV0, 0, 0, LV0, LV0, 0, fun _ => 0, 0, fun _ => 0, fun _ => 0, fun _ => -1, fun _ => 0, fun _ _ => 0, 0, 0)
theorem w0_ok : SOK w0 := by
  refine ⟨DI_WF DI_0 rfl, by decide, ⟨Or.inl rfl, fun q => absurd q (by decide)⟩, ⟨Or.inl rfl, fun q => absurd q (by decide)⟩, by decide, fun i a b => ?_, by decide, fun i a b => ?_, fun k hk => ⟨⟨by show (-1 : Int) ≤ -1; omega, by show (-1 : Int) ≤ 40; omega⟩, fun q => absurd rfl q, fun i a b => ?_⟩⟩
  · have b : i < 0 := b
    omega
  · have b : i < 0 := b
    omega
  · have b : i < -1 := b
    omega
theorem m7_a : m7 4 6 = 0 ∧ m7 4 7 = 0 ∧ m7 4 8 = 0 ∧ m7 19 0 = 0 ∧ m7 19 1 = 0 ∧ m7 2 1 = 0 ∧ m7 21 2 = 0 ∧ m7 0 12 = 0 ∧ m7 1 5 = 0 := by decide +kernel
theorem m7_b : ∀ k, k < 4 → m7 (42 + 2 * k) 2 = -1 := by decide +kernel
theorem m7_c : m7 50 1 = 0 ∧ m7 51 (0 + 40) = 0 ∧ m7 51 (0 + 41) = 0 ∧ m7 59 0 = 0 ∧ m7 59 1 = 0 ∧ m7 50 6 = 0 ∧ m7 50 22 = 0 ∧ m7 50 28 = 0 ∧ m7 50 7 = 0 ∧ m7 50 19 = -4 := by decide +kernel
theorem m7_d : (∀ k : Nat, k < 4 → m7 60 k = -4) ∧ (∀ i : Nat, i < 6 → m7 54 i = mEnds.getD i 0) ∧ (∀ i : Nat, i < 26 → m7 55 i = mLet.getD i 0) := by decide +kernel
theorem m7_C : Cls m7 w0 := by
  obtain ⟨a1, a2, a3, a4, a5, a6, a7, a8, a9⟩ := m7_a
  refine ⟨⟨a1, a2, a3, fun t x y => ?_, fun t x y => ?_⟩, ⟨a4, a5, fun q => absurd q (by decide), fun q => absurd q (by decide)⟩, ⟨a6, fun t x y => ?_⟩, ⟨a7, fun t x y => ?_⟩, fun k hk => ⟨m7_b k hk, fun q => absurd rfl q, fun t x y => ?_⟩, a8, a9⟩
  · have y : t < 0 := y
    omega
  · have y : t < 0 := y
    omega
  · have y : t < 0 := y
    omega
  · have y : t < 0 := y
    omega
  · have y : t < -1 := y
    omega
theorem m7_M : Mdl m7 w0 := by
  obtain ⟨a1, a2, a3, a4, a5, a6, a7, a8, a9, a10⟩ := m7_c
  refine ⟨⟨⟨by decide, by decide⟩, a1, a2, a3, fun t x y => ?_, fun t x y => ?_⟩, ⟨a4, a5, fun q => absurd q (by decide), fun q => absurd q (by decide)⟩, ⟨a6, fun t x y => ?_⟩, ⟨a7, fun t x y => ?_⟩, fun k hk => ⟨fun _ => m7_d.1 k hk, fun q => absurd rfl q, fun t x y => ?_⟩, a8, a9, a10, m7_d.2⟩
  · have y : t < 0 := y
    omega
  · have y : t < 0 := y
    omega
  · have y : t < 0 := y
    omega
  · have y : t < 0 := y
    omega
  · have y : t < -1 := y
    omega
theorem y_world {g : GG} {p : Program} {e : Env} {s : State} {m : MethodId} {below : List Frame} {meth : Method} {c : Code} {b pc : Nat} {Lc : List (Option Value)} {st : List Value} {hp hp2 : Hp} {cells slots : Nat} (h : hp = hp2) (k : Y g p e s m below meth c b pc Lc st hp2 cells slots) : Y g p e s m below meth c b pc Lc st hp cells slots := by
  subst h; exact k
set_option maxHeartbeats 8000000 in
set_option maxRecDepth 100000 in
/-- from the entry to the loop -/
theorem law_start {g : GG} {p : Program} {e : Env} {s : State} {m : MethodId} {below : List Frame} {meth : Method} {c : Code} {b L : Nat} {xs : Nat → Int32} (C : LC g p s m meth c b L xs) : Y g p e s m below meth c b 0 [some (.ref b), none, none, none] [] ([], rfN, mZ) 0 0 := by
  refine y_new C 3 (ci := 6) (j := 0) rfl (by decide) (xm 15 (by decide +kernel) (by decide +kernel)) (xm 16 (by decide +kernel) (by decide +kernel)) (xm 1 (by decide +kernel) (by decide +kernel)) (fun _ _ => ⟨fun _ => rfl, fun _ => rfl⟩) ⟨Nat.le_of_ble_eq_true rfl, Nat.le_of_ble_eq_true rfl⟩ dL_law_0 rfl ?_
  refine y_dup C 4 dL_law_3 rfl rfl ?_
  refine y_init C 7 i_X6 mX6_init kL_9 dL_law_4 rfl (Nat.le_of_ble_eq_true rfl) (Nat.le_of_ble_eq_true rfl) ⟨Nat.le_of_ble_eq_true rfl, Nat.le_of_ble_eq_true rfl⟩ (fun v1 hp1 q1 => ?_)
  obtain ⟨rfl, rfl, hz1⟩ := q1
  refine y_astore C 8 1 _ dL_law_7 rfl rfl (by decide) rfl rfl ?_
  refine y_new C 11 (ci := 7) (j := 50) rfl (by decide) (xm 713 (by decide +kernel) (by decide +kernel)) (xm 714 (by decide +kernel) (by decide +kernel)) (xm 8 (by decide +kernel) (by decide +kernel)) hz1 ⟨Nat.le_of_ble_eq_true rfl, Nat.le_of_ble_eq_true rfl⟩ dL_law_8 rfl ?_
  have hz2 : Zr (S50 ++ [.inl 7]) rf6 m6 := Zr.push hz1 (.inl 7)
  refine y_dup C 12 dL_law_11 rfl rfl ?_
  refine y_init C 15 (i_X7 (i := 50) (n := 51) rfl rfl hz2) mX7_init kL_12 dL_law_12 rfl (Nat.le_of_ble_eq_true rfl) (Nat.le_of_ble_eq_true rfl) ⟨Nat.le_of_ble_eq_true rfl, Nat.le_of_ble_eq_true rfl⟩ (fun v2 hp2 q2 => ?_)
  obtain ⟨rfl, rfl, -⟩ := q2
  refine y_astore C 16 2 _ dL_law_15 rfl rfl (by decide) rfl rfl ?_
  refine y_iconst C 17 dL_law_16 rfl ?_
  refine y_istore C 18 3 _ dL_law_17 rfl rfl (by decide) rfl rfl ?_
  refine y_world (hp2 := (S0, R0, m7)) (Prod.ext rfl (Prod.ext rf7_eq rfl)) ?_
  exact law_loop C (L + 1) 0 m7 w0 (by omega) (by omega) m7_C m7_M w0_ok
