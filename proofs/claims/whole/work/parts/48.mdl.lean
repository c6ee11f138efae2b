/-! ===== the reference's memory: page p of its numbers (array 51) holds v; the towns are the object's (50) ===== -/
theorem x_mem {g : GG} {T : XT} {K : XK} {pc : Nat} {L : List (Option Value)} {st : List Value} {sh : List Shp} {rf : Nat → Nat → Option Nat} {M : Mem} {Q : Option Value → Hp → Prop} (P : Mem → Prop) (h : P M) (k : ∀ M2, P M2 → X g T K pc L st (sh, rf, M2) Q) : X g T K pc L st (sh, rf, M) Q := k M h
def RP (M : Mem) (p : Int) (v : LV) : Prop := (vn v ≤ 5 ∧ vf v ≤ 10) ∧ M 50 1 = vn v ∧ M 51 (p + 40) = vf v ∧ M 51 (p + 41) = vw v ∧ (∀ t, 0 ≤ t → t < vn v → M 51 (p + t) = vK v t ∧ M 51 (p + 5 + t) = vS v t ∧ M 51 (p + 10 + t) = vL v t ∧ M 51 (p + 15 + t) = vO v t) ∧ (∀ i, 0 ≤ i → i < vf v → M 51 (p + 20 + i) = vA v i ∧ M 51 (p + 30 + i) = vB v i)
def FP (p : Int) (M M2 : Mem) : Prop := (∀ a, a ≠ 50 → a ≠ 51 → M2 a = M a) ∧ (∀ k, k ≠ 16 → k ≠ 17 → k ≠ 18 → M2 50 k = M 50 k) ∧ (∀ k, (k < p ∨ p + 42 ≤ k) → M2 51 k = M 51 k)
theorem FP.rf (p : Int) (M : Mem) : FP p M M := ⟨fun _ _ _ => rfl, fun _ _ _ _ => rfl, fun _ _ => rfl⟩
theorem FP.tr {p : Int} {M M2 M3 : Mem} (h : FP p M M2) (h2 : FP p M2 M3) : FP p M M3 := ⟨fun a x y => (h2.1 a x y).trans (h.1 a x y), fun k x y z => (h2.2.1 k x y z).trans (h.2.1 k x y z), fun k x => (h2.2.2 k x).trans (h.2.2 k x)⟩
theorem FP.up1 {p : Int} {M M2 : Mem} (h : FP p M M2) (x y : Int) (hx : p ≤ x ∧ x < p + 42) : FP p M (up2 M2 51 x y) := by
  refine ⟨fun a h1 h2 => ?_, fun k h1 h2 h3 => ?_, fun k hk => ?_⟩
  · rw [up2_o M2 x y h2]; exact h.1 a h1 h2
  · rw [up2_o M2 x y (by omega)]; exact h.2.1 k h1 h2 h3
  · rw [up2_k M2 51 y (show k ≠ x by omega)]; exact h.2.2 k hk
theorem FP.up0 {p : Int} {M M2 : Mem} (h : FP p M M2) (x y : Int) (hx : x = 16 ∨ x = 17 ∨ x = 18) : FP p M (up2 M2 50 x y) := by
  refine ⟨fun a h1 h2 => ?_, fun k h1 h2 h3 => ?_, fun k hk => ?_⟩
  · rw [up2_o M2 x y h1]; exact h.1 a h1 h2
  · rw [up2_k M2 50 y (show k ≠ x by omega)]; exact h.2.1 k h1 h2 h3
  · rw [up2_o M2 x y (by omega)]; exact h.2.2 k hk
theorem RP.keep {M M2 : Mem} {p : Int} {v : LV} (h : RP M p v) (h1 : M2 50 1 = M 50 1) (h2 : ∀ k, p ≤ k → k < p + 42 → M2 51 k = M 51 k) : RP M2 p v := by
  obtain ⟨hb, r0, r1, r2, r4, r5⟩ := h
  refine ⟨hb, h1.trans r0, (h2 _ (by omega) (by omega)).trans r1, (h2 _ (by omega) (by omega)).trans r2, fun t a b => ?_, fun i a b => ?_⟩
  · rw [h2 (p + t) (by omega) (by omega), h2 (p + 5 + t) (by omega) (by omega), h2 (p + 10 + t) (by omega) (by omega), h2 (p + 15 + t) (by omega) (by omega)]; exact r4 t a b
  · rw [h2 (p + 20 + i) (by omega) (by omega), h2 (p + 30 + i) (by omega) (by omega)]; exact r5 i a b
theorem RP.far {M M2 : Mem} {p q : Int} {v : LV} (h : RP M q v) (hF : FP p M M2) (hd : q + 42 ≤ p ∨ p + 42 ≤ q) : RP M2 q v := h.keep (hF.2.1 1 (by omega) (by omega) (by omega)) (fun k a b => hF.2.2 k (by omega))
theorem RP.up0 {M : Mem} {p : Int} {v : LV} (h : RP M p v) (x y : Int) (hx : x ≠ 1) : RP (up2 M 50 x y) p v := h.keep (up2_k M 50 y (show (1 : Int) ≠ x by omega)) (fun k _ _ => by rw [up2_o M x y (by omega)])
theorem RP.ext {M : Mem} {p : Int} {v v' : LV} (h : RP M p v) (e1 : vn v' = vn v) (e2 : vf v' = vf v) (e3 : vw v' = vw v) (e4 : ∀ t, 0 ≤ t → t < vn v → vK v' t = vK v t ∧ vS v' t = vS v t ∧ vL v' t = vL v t ∧ vO v' t = vO v t) (e5 : ∀ i, 0 ≤ i → i < vf v → vA v' i = vA v i ∧ vB v' i = vB v i) : RP M p v' := by
  obtain ⟨hb, r1, r2, r3, r4, r5⟩ := h
  refine ⟨by rw [e1, e2]; exact hb, r1.trans e1.symm, r2.trans e2.symm, r3.trans e3.symm, fun t a b => ?_, fun i a b => ?_⟩
  · rw [e1] at b
    obtain ⟨a1, a2, a3, a4⟩ := r4 t a b
    obtain ⟨b1, b2, b3, b4⟩ := e4 t a b
    exact ⟨a1.trans b1.symm, a2.trans b2.symm, a3.trans b3.symm, a4.trans b4.symm⟩
  · rw [e2] at b
    obtain ⟨a1, a2⟩ := r5 i a b
    obtain ⟨b1, b2⟩ := e5 i a b
    exact ⟨a1.trans b1.symm, a2.trans b2.symm⟩
theorem RP_K {M : Mem} {p : Int} {v : LV} (h : RP M p v) (k y x : Int) (hk : 0 ≤ k ∧ k < 5) (hx : x = p + k) : RP (up2 M 51 x y) p (setK v (fu (vK v) k y)) := by
  obtain ⟨hb, r1, r2, r3, r4, r5⟩ := h
  subst hx
  have q : ∀ z, z ≠ p + k → up2 M 51 (p + k) y 51 z = M 51 z := fun z hz => up2_k M 51 y hz
  have qs : ∀ (f : Int → Int) (t z : Int), (z = p + k ↔ t = k) → M 51 z = f t → up2 M 51 (p + k) y 51 z = fu f k y t := fun f t z hz hm => by
    rw [up2_i]; unfold fu
    by_cases e : t = k
    · rw [if_pos e, if_pos (hz.mpr e)]
    · rw [if_neg e, if_neg (fun w => e (hz.mp w))]; exact hm
  refine ⟨hb, (congrFun (up2_o M _ y (show (50 : Nat) ≠ 51 by omega)) 1).trans r1, (q _ (by omega)).trans r2, (q _ (by omega)).trans r3, fun t a b => ?_, fun t a b => ?_⟩
  · have hb1 : vn v ≤ 5 := hb.1
    have b : t < vn v := b
    obtain ⟨a1, a2, a3, a4⟩ := r4 t a b
    exact ⟨qs (vK v) t _ (by omega) a1, (q _ (by omega)).trans a2, (q _ (by omega)).trans a3, (q _ (by omega)).trans a4⟩
  · have hb1 : vf v ≤ 10 := hb.2
    have b : t < vf v := b
    obtain ⟨a1, a2⟩ := r5 t a b
    exact ⟨(q _ (by omega)).trans a1, (q _ (by omega)).trans a2⟩
theorem RP_S {M : Mem} {p : Int} {v : LV} (h : RP M p v) (k y x : Int) (hk : 0 ≤ k ∧ k < 5) (hx : x = p + 5 + k) : RP (up2 M 51 x y) p (setS v (fu (vS v) k y)) := by
  obtain ⟨hb, r1, r2, r3, r4, r5⟩ := h
  subst hx
  have q : ∀ z, z ≠ p + 5 + k → up2 M 51 (p + 5 + k) y 51 z = M 51 z := fun z hz => up2_k M 51 y hz
  have qs : ∀ (f : Int → Int) (t z : Int), (z = p + 5 + k ↔ t = k) → M 51 z = f t → up2 M 51 (p + 5 + k) y 51 z = fu f k y t := fun f t z hz hm => by
    rw [up2_i]; unfold fu
    by_cases e : t = k
    · rw [if_pos e, if_pos (hz.mpr e)]
    · rw [if_neg e, if_neg (fun w => e (hz.mp w))]; exact hm
  refine ⟨hb, (congrFun (up2_o M _ y (show (50 : Nat) ≠ 51 by omega)) 1).trans r1, (q _ (by omega)).trans r2, (q _ (by omega)).trans r3, fun t a b => ?_, fun t a b => ?_⟩
  · have hb1 : vn v ≤ 5 := hb.1
    have b : t < vn v := b
    obtain ⟨a1, a2, a3, a4⟩ := r4 t a b
    exact ⟨(q _ (by omega)).trans a1, qs (vS v) t _ (by omega) a2, (q _ (by omega)).trans a3, (q _ (by omega)).trans a4⟩
  · have hb1 : vf v ≤ 10 := hb.2
    have b : t < vf v := b
    obtain ⟨a1, a2⟩ := r5 t a b
    exact ⟨(q _ (by omega)).trans a1, (q _ (by omega)).trans a2⟩
theorem RP_L {M : Mem} {p : Int} {v : LV} (h : RP M p v) (k y x : Int) (hk : 0 ≤ k ∧ k < 5) (hx : x = p + 10 + k) : RP (up2 M 51 x y) p (setL v (fu (vL v) k y)) := by
  obtain ⟨hb, r1, r2, r3, r4, r5⟩ := h
  subst hx
  have q : ∀ z, z ≠ p + 10 + k → up2 M 51 (p + 10 + k) y 51 z = M 51 z := fun z hz => up2_k M 51 y hz
  have qs : ∀ (f : Int → Int) (t z : Int), (z = p + 10 + k ↔ t = k) → M 51 z = f t → up2 M 51 (p + 10 + k) y 51 z = fu f k y t := fun f t z hz hm => by
    rw [up2_i]; unfold fu
    by_cases e : t = k
    · rw [if_pos e, if_pos (hz.mpr e)]
    · rw [if_neg e, if_neg (fun w => e (hz.mp w))]; exact hm
  refine ⟨hb, (congrFun (up2_o M _ y (show (50 : Nat) ≠ 51 by omega)) 1).trans r1, (q _ (by omega)).trans r2, (q _ (by omega)).trans r3, fun t a b => ?_, fun t a b => ?_⟩
  · have hb1 : vn v ≤ 5 := hb.1
    have b : t < vn v := b
    obtain ⟨a1, a2, a3, a4⟩ := r4 t a b
    exact ⟨(q _ (by omega)).trans a1, (q _ (by omega)).trans a2, qs (vL v) t _ (by omega) a3, (q _ (by omega)).trans a4⟩
  · have hb1 : vf v ≤ 10 := hb.2
    have b : t < vf v := b
    obtain ⟨a1, a2⟩ := r5 t a b
    exact ⟨(q _ (by omega)).trans a1, (q _ (by omega)).trans a2⟩
theorem RP_O {M : Mem} {p : Int} {v : LV} (h : RP M p v) (k y x : Int) (hk : 0 ≤ k ∧ k < 5) (hx : x = p + 15 + k) : RP (up2 M 51 x y) p (setO v (fu (vO v) k y)) := by
  obtain ⟨hb, r1, r2, r3, r4, r5⟩ := h
  subst hx
  have q : ∀ z, z ≠ p + 15 + k → up2 M 51 (p + 15 + k) y 51 z = M 51 z := fun z hz => up2_k M 51 y hz
  have qs : ∀ (f : Int → Int) (t z : Int), (z = p + 15 + k ↔ t = k) → M 51 z = f t → up2 M 51 (p + 15 + k) y 51 z = fu f k y t := fun f t z hz hm => by
    rw [up2_i]; unfold fu
    by_cases e : t = k
    · rw [if_pos e, if_pos (hz.mpr e)]
    · rw [if_neg e, if_neg (fun w => e (hz.mp w))]; exact hm
  refine ⟨hb, (congrFun (up2_o M _ y (show (50 : Nat) ≠ 51 by omega)) 1).trans r1, (q _ (by omega)).trans r2, (q _ (by omega)).trans r3, fun t a b => ?_, fun t a b => ?_⟩
  · have hb1 : vn v ≤ 5 := hb.1
    have b : t < vn v := b
    obtain ⟨a1, a2, a3, a4⟩ := r4 t a b
    exact ⟨(q _ (by omega)).trans a1, (q _ (by omega)).trans a2, (q _ (by omega)).trans a3, qs (vO v) t _ (by omega) a4⟩
  · have hb1 : vf v ≤ 10 := hb.2
    have b : t < vf v := b
    obtain ⟨a1, a2⟩ := r5 t a b
    exact ⟨(q _ (by omega)).trans a1, (q _ (by omega)).trans a2⟩
theorem RP_A {M : Mem} {p : Int} {v : LV} (h : RP M p v) (k y x : Int) (hk : 0 ≤ k ∧ k < 10) (hx : x = p + 20 + k) : RP (up2 M 51 x y) p (setA v (fu (vA v) k y)) := by
  obtain ⟨hb, r1, r2, r3, r4, r5⟩ := h
  subst hx
  have q : ∀ z, z ≠ p + 20 + k → up2 M 51 (p + 20 + k) y 51 z = M 51 z := fun z hz => up2_k M 51 y hz
  have qs : ∀ (f : Int → Int) (t z : Int), (z = p + 20 + k ↔ t = k) → M 51 z = f t → up2 M 51 (p + 20 + k) y 51 z = fu f k y t := fun f t z hz hm => by
    rw [up2_i]; unfold fu
    by_cases e : t = k
    · rw [if_pos e, if_pos (hz.mpr e)]
    · rw [if_neg e, if_neg (fun w => e (hz.mp w))]; exact hm
  refine ⟨hb, (congrFun (up2_o M _ y (show (50 : Nat) ≠ 51 by omega)) 1).trans r1, (q _ (by omega)).trans r2, (q _ (by omega)).trans r3, fun t a b => ?_, fun t a b => ?_⟩
  · have hb1 : vn v ≤ 5 := hb.1
    have b : t < vn v := b
    obtain ⟨a1, a2, a3, a4⟩ := r4 t a b
    exact ⟨(q _ (by omega)).trans a1, (q _ (by omega)).trans a2, (q _ (by omega)).trans a3, (q _ (by omega)).trans a4⟩
  · have hb1 : vf v ≤ 10 := hb.2
    have b : t < vf v := b
    obtain ⟨a1, a2⟩ := r5 t a b
    exact ⟨qs (vA v) t _ (by omega) a1, (q _ (by omega)).trans a2⟩
theorem RP_B {M : Mem} {p : Int} {v : LV} (h : RP M p v) (k y x : Int) (hk : 0 ≤ k ∧ k < 10) (hx : x = p + 30 + k) : RP (up2 M 51 x y) p (setB v (fu (vB v) k y)) := by
  obtain ⟨hb, r1, r2, r3, r4, r5⟩ := h
  subst hx
  have q : ∀ z, z ≠ p + 30 + k → up2 M 51 (p + 30 + k) y 51 z = M 51 z := fun z hz => up2_k M 51 y hz
  have qs : ∀ (f : Int → Int) (t z : Int), (z = p + 30 + k ↔ t = k) → M 51 z = f t → up2 M 51 (p + 30 + k) y 51 z = fu f k y t := fun f t z hz hm => by
    rw [up2_i]; unfold fu
    by_cases e : t = k
    · rw [if_pos e, if_pos (hz.mpr e)]
    · rw [if_neg e, if_neg (fun w => e (hz.mp w))]; exact hm
  refine ⟨hb, (congrFun (up2_o M _ y (show (50 : Nat) ≠ 51 by omega)) 1).trans r1, (q _ (by omega)).trans r2, (q _ (by omega)).trans r3, fun t a b => ?_, fun t a b => ?_⟩
  · have hb1 : vn v ≤ 5 := hb.1
    have b : t < vn v := b
    obtain ⟨a1, a2, a3, a4⟩ := r4 t a b
    exact ⟨(q _ (by omega)).trans a1, (q _ (by omega)).trans a2, (q _ (by omega)).trans a3, (q _ (by omega)).trans a4⟩
  · have hb1 : vf v ≤ 10 := hb.2
    have b : t < vf v := b
    obtain ⟨a1, a2⟩ := r5 t a b
    exact ⟨(q _ (by omega)).trans a1, qs (vB v) t _ (by omega) a2⟩
theorem RP_W {M : Mem} {p : Int} {v : LV} (h : RP M p v) (y x : Int) (hx : x = p + 41) : RP (up2 M 51 x y) p (setW v y) := by
  obtain ⟨hb, r1, r2, r3, r4, r5⟩ := h
  subst hx
  have q : ∀ z, z ≠ p + 41 → up2 M 51 (p + 41) y 51 z = M 51 z := fun z hz => up2_k M 51 y hz
  refine ⟨hb, (congrFun (up2_o M _ y (show (50 : Nat) ≠ 51 by omega)) 1).trans r1, (q _ (by omega)).trans r2, up2_s _ _ _ _, fun t a b => ?_, fun t a b => ?_⟩
  · have b : t < vn v := b
    rw [q _ (by omega), q _ (by omega), q _ (by omega), q _ (by omega)]; exact r4 t a b
  · have b : t < vf v := b
    rw [q _ (by omega), q _ (by omega)]; exact r5 t a b
theorem RP_F {M : Mem} {p : Int} {v : LV} (h : RP M p v) (y x : Int) (hy : y ≤ vf v) (hx : x = p + 40) : RP (up2 M 51 x y) p (setF v y) := by
  obtain ⟨hb, r1, r2, r3, r4, r5⟩ := h
  subst hx
  have q : ∀ z, z ≠ p + 40 → up2 M 51 (p + 40) y 51 z = M 51 z := fun z hz => up2_k M 51 y hz
  refine ⟨⟨hb.1, Int.le_trans hy hb.2⟩, (congrFun (up2_o M _ y (show (50 : Nat) ≠ 51 by omega)) 1).trans r1, up2_s _ _ _ _, (q _ (by omega)).trans r3, fun t a b => ?_, fun t a b => ?_⟩
  · have b : t < vn v := b
    rw [q _ (by omega), q _ (by omega), q _ (by omega), q _ (by omega)]; exact r4 t a b
  · have b : t < y := b
    rw [q _ (by omega), q _ (by omega)]; exact r5 t a (by omega)
theorem RP_addF {M : Mem} {p : Int} {v : LV} (h : RP M p v) (a b : Int) (hf : 0 ≤ vf v ∧ vf v < 10) {x1 x2 x3 z : Int} (e1 : x1 = p + 20 + vf v) (e2 : x2 = p + 30 + vf v) (e3 : x3 = p + 40) (ez : z = vf v + 1) : RP (up2 (up2 (up2 M 51 x1 a) 51 x2 b) 51 x3 z) p (addF v a b) := by
  obtain ⟨hb, r1, r2, r3, r4, r5⟩ := h
  subst e1; subst e2; subst e3; subst ez
  have q : ∀ z, z ≠ p + 20 + vf v → z ≠ p + 30 + vf v → z ≠ p + 40 → up2 (up2 (up2 M 51 (p + 20 + vf v) a) 51 (p + 30 + vf v) b) 51 (p + 40) (vf v + 1) 51 z = M 51 z := fun z h1 h2 h3 => by
    rw [up2_k _ _ _ h3, up2_k _ _ _ h2, up2_k _ _ _ h1]
  have q0 : up2 (up2 (up2 M 51 (p + 20 + vf v) a) 51 (p + 30 + vf v) b) 51 (p + 40) (vf v + 1) 50 = M 50 := by
    rw [up2_o _ _ _ (by omega), up2_o _ _ _ (by omega), up2_o _ _ _ (by omega)]
  refine ⟨⟨hb.1, show vf v + 1 ≤ 10 by omega⟩, (congrFun q0 1).trans r1, up2_s _ _ _ _, (q _ (by omega) (by omega) (by omega)).trans r3, fun t c d => ?_, fun t c d => ?_⟩
  · have d : t < vn v := d
    have hb1 : vn v ≤ 5 := hb.1
    rw [q _ (by omega) (by omega) (by omega), q _ (by omega) (by omega) (by omega), q _ (by omega) (by omega) (by omega), q _ (by omega) (by omega) (by omega)]; exact r4 t c d
  · have d : t < vf v + 1 := d
    show _ = fu (vA v) (vf v) a t ∧ _ = fu (vB v) (vf v) b t
    unfold fu
    by_cases e : t = vf v
    · subst e
      rw [if_pos rfl, if_pos rfl]
      refine ⟨?_, ?_⟩
      · rw [up2_k _ _ _ (by omega), up2_k _ _ _ (by omega), up2_s]
      · rw [up2_k _ _ _ (by omega), up2_s]
    · rw [if_neg e, if_neg e, q _ (by omega) (by omega) (by omega), q _ (by omega) (by omega) (by omega)]
      exact r5 t c (by omega)
theorem RP.S {M : Mem} {p t x : Int} {v : LV} (h : RP M p v) (h0 : 0 ≤ t) (h1 : t < vn v) (hx : x = p + 5 + t) : M 51 x = vS v t := by rw [hx]; exact (h.2.2.2.2.1 t h0 h1).2.1
theorem RP.K {M : Mem} {p t x : Int} {v : LV} (h : RP M p v) (h0 : 0 ≤ t) (h1 : t < vn v) (hx : x = p + t) : M 51 x = vK v t := by rw [hx]; exact (h.2.2.2.2.1 t h0 h1).1
theorem RP.L {M : Mem} {p t x : Int} {v : LV} (h : RP M p v) (h0 : 0 ≤ t) (h1 : t < vn v) (hx : x = p + 10 + t) : M 51 x = vL v t := by rw [hx]; exact (h.2.2.2.2.1 t h0 h1).2.2.1
theorem RP.O {M : Mem} {p t x : Int} {v : LV} (h : RP M p v) (h0 : 0 ≤ t) (h1 : t < vn v) (hx : x = p + 15 + t) : M 51 x = vO v t := by rw [hx]; exact (h.2.2.2.2.1 t h0 h1).2.2.2
theorem RP.A {M : Mem} {p t x : Int} {v : LV} (h : RP M p v) (h0 : 0 ≤ t) (h1 : t < vf v) (hx : x = p + 20 + t) : M 51 x = vA v t := by rw [hx]; exact (h.2.2.2.2.2 t h0 h1).1
theorem RP.B {M : Mem} {p t x : Int} {v : LV} (h : RP M p v) (h0 : 0 ≤ t) (h1 : t < vf v) (hx : x = p + 30 + t) : M 51 x = vB v t := by rw [hx]; exact (h.2.2.2.2.2 t h0 h1).2
theorem RP.F {M : Mem} {p x : Int} {v : LV} (h : RP M p v) (hx : x = p + 40) : M 51 x = vf v := by rw [hx]; exact h.2.2.1
theorem RP.W {M : Mem} {p x : Int} {v : LV} (h : RP M p v) (hx : x = p + 41) : M 51 x = vw v := by rw [hx]; exact h.2.2.2.1
/-- a page copied -/
def CPY (f t : Int) (M M2 : Mem) : Prop := (∀ a, a ≠ 51 → M2 a = M a) ∧ (∀ k, 0 ≤ k → k < 42 → M2 51 (t + k) = M 51 (f + k)) ∧ (∀ k, (k < t ∨ t + 42 ≤ k) → M2 51 k = M 51 k)
theorem RP.copy {M M2 : Mem} {f t : Int} {v : LV} (h : RP M f v) (hc : CPY f t M M2) : RP M2 t v := by
  obtain ⟨hb, r1, r2, r3, r4, r5⟩ := h
  obtain ⟨c1, c2, c3⟩ := hc
  have q : ∀ d k : Int, 0 ≤ d + k → d + k < 42 → M2 51 (t + d + k) = M 51 (f + d + k) := fun d k h1 h2 => by
    have e := c2 (d + k) h1 h2
    rw [show t + d + k = t + (d + k) by omega, show f + d + k = f + (d + k) by omega]; exact e
  refine ⟨hb, by rw [c1 50 (by omega)]; exact r1, (c2 40 (by omega) (by omega)).trans r2, (c2 41 (by omega) (by omega)).trans r3, fun k a b => ?_, fun k a b => ?_⟩
  · rw [c2 k a (by omega), q 5 k (by omega) (by omega), q 10 k (by omega) (by omega), q 15 k (by omega) (by omega)]; exact r4 k a b
  · rw [q 20 k (by omega) (by omega), q 30 k (by omega) (by omega)]; exact r5 k a b
theorem CPY.fp {M M2 : Mem} {f t : Int} (h : CPY f t M M2) : FP t M M2 := ⟨fun a _ h2 => h.1 a h2, fun k _ _ _ => by rw [h.1 50 (by omega)], fun k hk => h.2.2 k hk⟩
/-- what int arithmetic keeps of a number -/
def wr (x : Int) : Int := (Int32.ofInt x).toInt
theorem wr_rng (x : Int) : -2147483648 ≤ wr x ∧ wr x ≤ 2147483647 := i32_rng _
theorem wr_of (x : Int) : Int32.ofInt (wr x) = Int32.ofInt x := by unfold wr; exact Int32.ofInt_toInt _
theorem wr_id {x : Int} (h : -2147483648 ≤ x ∧ x ≤ 2147483647) : wr x = x := iT h.1 h.2
/-- the reference's object holds s -/
def mEnds : List Int := [0, 5, 10, 14, 22, 26]
def mLet : List Int := [112, 108, 97, 105, 110, 112, 114, 111, 117, 100, 119, 105, 115, 101, 99, 97, 114, 101, 108, 101, 115, 115, 103, 97, 109, 101]
def MCon (M : Mem) : Prop := (∀ i : Nat, i < 6 → M 54 i = mEnds.getD i 0) ∧ (∀ i : Nat, i < 26 → M 55 i = mLet.getD i 0)
def Mdl (M : Mem) (s : ST) : Prop := RP M 0 (sV s) ∧ (M 59 0 = k0 s ∧ M 59 1 = k1 s ∧ (k0 s = 1 → RP M 42 (i0 s)) ∧ (k1 s = 1 → RP M 84 (i1 s))) ∧ (M 50 6 = tl s ∧ ∀ i, 0 ≤ i → i < tl s → M 53 i = tb s i) ∧ (M 50 22 = sc s ∧ ∀ i, 0 ≤ i → i < sc s → M 57 (2 * i) = sw s i ∧ M 57 (2 * i + 1) = sl s i) ∧ (∀ k : Nat, k < 4 → (zz s k = -1 → M 60 k = -4) ∧ (zz s k ≠ -1 → M 60 k = zl s k ∧ M 61 k = zz s k) ∧ ∀ i, 0 ≤ i → i < zz s k → M 62 (40 * (k : Int) + i) = zc s k i) ∧ M 50 28 = tn s ∧ M 50 7 = fa s ∧ M 50 19 = -4 ∧ MCon M
/-- scratch alone has changed -/
def SM (M M2 : Mem) : Prop := (∀ a, a ≠ 50 → a ≠ 51 → a ≠ 52 → a ≠ 56 → a ≠ 58 → M2 a = M a) ∧ (∀ k, (k = 1 ∨ k = 6 ∨ k = 7 ∨ k = 19 ∨ k = 22 ∨ k = 28) → M2 50 k = M 50 k) ∧ (∀ k, k < 126 → M2 51 k = M 51 k)
theorem SM.rf (M : Mem) : SM M M := ⟨fun _ _ _ _ _ _ => rfl, fun _ _ => rfl, fun _ _ => rfl⟩
theorem SM.tr {M M2 M3 : Mem} (h : SM M M2) (h2 : SM M2 M3) : SM M M3 := ⟨fun a x y z w u => (h2.1 a x y z w u).trans (h.1 a x y z w u), fun k x => (h2.2.1 k x).trans (h.2.1 k x), fun k x => (h2.2.2 k x).trans (h.2.2 k x)⟩
theorem SM.of {M M2 : Mem} {p : Int} (h : FP p M M2) (hp : 126 ≤ p) : SM M M2 := ⟨fun a x y _ _ _ => h.1 a x y, fun k hk => h.2.1 k (by omega) (by omega) (by omega), fun k hk => h.2.2 k (by omega)⟩
theorem SM.up1 {M M2 : Mem} (h : SM M M2) (x y : Int) (hx : 126 ≤ x) : SM M (up2 M2 51 x y) := by
  refine ⟨fun a h1 h2 h3 h4 h5 => ?_, fun k hk => ?_, fun k hk => ?_⟩
  · rw [up2_o M2 x y h2]; exact h.1 a h1 h2 h3 h4 h5
  · rw [up2_o M2 x y (by omega)]; exact h.2.1 k hk
  · rw [up2_k M2 51 y (show k ≠ x by omega)]; exact h.2.2 k hk
theorem SM.up0 {M M2 : Mem} (h : SM M M2) (x y : Int) (hx : ¬ (x = 1 ∨ x = 6 ∨ x = 7 ∨ x = 19 ∨ x = 22 ∨ x = 28)) : SM M (up2 M2 50 x y) := by
  refine ⟨fun a h1 h2 h3 h4 h5 => ?_, fun k hk => ?_, fun k hk => ?_⟩
  · rw [up2_o M2 x y h1]; exact h.1 a h1 h2 h3 h4 h5
  · rw [up2_k M2 50 y (show k ≠ x by omega)]; exact h.2.1 k hk
  · rw [up2_o M2 x y (by omega)]; exact h.2.2 k hk
theorem SM.upA {M M2 : Mem} (h : SM M M2) (i : Nat) (x y : Int) (hi : i = 52 ∨ i = 56 ∨ i = 58) : SM M (up2 M2 i x y) := by
  refine ⟨fun a h1 h2 h3 h4 h5 => ?_, fun k hk => ?_, fun k hk => ?_⟩
  · rw [up2_o M2 x y (by omega)]; exact h.1 a h1 h2 h3 h4 h5
  · rw [up2_o M2 x y (by omega)]; exact h.2.1 k hk
  · rw [up2_o M2 x y (by omega)]; exact h.2.2 k hk
theorem RP.sm {M M2 : Mem} {p : Int} {v : LV} (h : RP M p v) (hS : SM M M2) (hp : p + 42 ≤ 126) : RP M2 p v := h.keep (hS.2.1 1 (by omega)) (fun k a b => hS.2.2 k (by omega))
theorem MCon.keep {M M2 : Mem} (h : MCon M) (h1 : M2 54 = M 54) (h2 : M2 55 = M 55) : MCon M2 := by unfold MCon; rw [h1, h2]; exact h
theorem Mdl.keep {M M2 : Mem} {s : ST} (h : Mdl M s) (hS : SM M M2) : Mdl M2 s := by
  obtain ⟨h1, ⟨h2, h3, h4, h5⟩, h6, h7, h8, h9, h10, h11, h12⟩ := h
  have e (a : Nat) (h : a ≠ 50 ∧ a ≠ 51 ∧ a ≠ 52 ∧ a ≠ 56 ∧ a ≠ 58) : M2 a = M a := hS.1 a h.1 h.2.1 h.2.2.1 h.2.2.2.1 h.2.2.2.2
  have e5 (k : Int) (h : k = 1 ∨ k = 6 ∨ k = 7 ∨ k = 19 ∨ k = 22 ∨ k = 28) : M2 50 k = M 50 k := hS.2.1 k h
  refine ⟨h1.sm hS (by omega), ⟨?_, ?_, fun q => (h4 q).sm hS (by omega), fun q => (h5 q).sm hS (by omega)⟩, ?_, ?_, fun k hk => ?_, ?_, ?_, ?_, ?_⟩
  · rw [e 59 (by omega)]; exact h2
  · rw [e 59 (by omega)]; exact h3
  · rw [e5 6 (by omega), e 53 (by omega)]; exact h6
  · rw [e5 22 (by omega), e 57 (by omega)]; exact h7
  · rw [e 60 (by omega), e 61 (by omega), e 62 (by omega)]; exact h8 k hk
  · rw [e5 28 (by omega)]; exact h9
  · rw [e5 7 (by omega)]; exact h10
  · rw [e5 19 (by omega)]; exact h11
  · exact h12.keep (e 54 (by omega)) (e 55 (by omega))
theorem Mdl.uV {M M2 : Mem} {s : ST} {v : LV} (h : Mdl M s) (hR : RP M2 0 v) (hF : FP 0 M M2) : Mdl M2 (uV s v) := by
  obtain ⟨h1, ⟨h2, h3, h4, h5⟩, h6, h7, h8, h9, h10, h11, h12⟩ := h
  have e (a : Nat) (h : a ≠ 50 ∧ a ≠ 51) : M2 a = M a := hF.1 a h.1 h.2
  have e5 (k : Int) (h : k ≠ 16 ∧ k ≠ 17 ∧ k ≠ 18) : M2 50 k = M 50 k := hF.2.1 k h.1 h.2.1 h.2.2
  refine ⟨hR, ⟨?_, ?_, fun q => (h4 q).far hF (by omega), fun q => (h5 q).far hF (by omega)⟩, ?_, ?_, fun k hk => ?_, ?_, ?_, ?_, ?_⟩
  · rw [e 59 (by omega)]; exact h2
  · rw [e 59 (by omega)]; exact h3
  · rw [e5 6 (by omega), e 53 (by omega)]; exact h6
  · rw [e5 22 (by omega), e 57 (by omega)]; exact h7
  · rw [e 60 (by omega), e 61 (by omega), e 62 (by omega)]; exact h8 k hk
  · rw [e5 28 (by omega)]; exact h9
  · rw [e5 7 (by omega)]; exact h10
  · rw [e5 19 (by omega)]; exact h11
  · exact h12.keep (e 54 (by omega)) (e 55 (by omega))
/-- how a call of the reference ends -/
def PM (M : Mem) (r0 : Int) (s : ST) : Int → Mem → Prop := fun r M2 => r = r0 ∧ Mdl M2 s ∧ ∀ a, a < 50 → M2 a = M a
theorem PM.same {M : Mem} {r r0 : Int} {s : ST} (hC : Mdl M s) (h : r = r0) : PM M r0 s r M := ⟨h, hC, fun _ _ => rfl⟩
theorem PM.scr {M M2 : Mem} {r r0 : Int} {s : ST} (hC : Mdl M s) (h : r = r0) (e : SM M M2) : PM M r0 s r M2 := ⟨h, hC.keep e, fun a ha => e.1 a (by omega) (by omega) (by omega) (by omega) (by omega)⟩
theorem PM.lg {M M2 : Mem} {r r0 : Int} {s : ST} {v : LV} (hC : Mdl M s) (h : r = r0) (hR : RP M2 0 v) (hF : FP 0 M M2) : PM M r0 (uV s v) r M2 := ⟨h, hC.uV hR hF, fun a ha => hF.1 a (by omega) (by omega)⟩
