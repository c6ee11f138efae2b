/-! ===== what is best: the first that leaves least ===== -/
def off (p : Int × Int) (x y : Int) : Int × Int := if y < p.2 then (x, y) else p
def ansB (p : Int × Int) (w : Int) : Int := if p.1 = -4 then -4 else if w = 0 then p.1 else p.2
def BS (M : Mem) (p : Int × Int) : Prop := M 24 0 = p.1 ∧ M 24 1 = p.2
def SF (M M2 : Mem) : Prop := ∀ a, ¬ Scr a → M2 a = M a
theorem SF.rf (M : Mem) : SF M M := fun _ _ => rfl
theorem SF.tr {M M2 M3 : Mem} (h : SF M M2) (h2 : SF M2 M3) : SF M M3 := fun a ha => (h2 a ha).trans (h a ha)
theorem SF.of {M M2 : Mem} (h : Fr 11 M M2) : SF M M2 := fun a ha => h a (by unfold Scr at ha; omega)
theorem SF.up {M M2 : Mem} (h : SF M M2) (i : Nat) (k x : Int) (hi : Scr i) : SF M (up2 M2 i k x) := fun a ha => by
  have hne : a ≠ i := fun e => ha (by rw [e]; exact hi)
  rw [up2_o M2 k x hne]; exact h a ha
theorem SF.R4 {M M2 : Mem} {v : LV} (h : SF M M2) (hR : Rep M 4 v) : Rep M2 4 v := hR.keep (fun a x y => h a (by unfold Scr; omega))
theorem BS.fr {M M2 : Mem} {p : Int × Int} (h : BS M p) (hF : Fr 11 M M2) : BS M2 p := by unfold BS; rw [hF 24 (by omega)]; exact h
theorem BS.put {M : Mem} {p : Int × Int} (h : BS M p) (x y : Int) : BS (if y < M 24 1 then up2 (up2 M 24 0 x) 24 1 y else M) (off p x y) := by
  unfold off
  rw [h.2]
  by_cases e : y < p.2
  · rw [if_pos e, if_pos e]; exact ⟨by rw [up2_k _ _ _ (by omega), up2_s], up2_s _ _ _ _⟩
  · rw [if_neg e, if_neg e]; exact h
theorem SF.put {M M2 : Mem} (h : SF M M2) (x y : Int) : SF M (if y < M2 24 1 then up2 (up2 M2 24 0 x) 24 1 y else M2) := by
  split
  · exact (h.up _ _ _ (by unfold Scr; omega)).up _ _ _ (by unfold Scr; omega)
  · exact h
def loanIn (v : LV) (n a : Nat) (p : Int × Int) : Nat → Int × Int
  | 0 => p
  | b + 1 => if (a : Int) ≠ (b : Int) ∧ 0 ≤ lendR v a b 1 then off (loanIn v n a p b) (10 * a + b) (owed (goV (lendV v a b 1) n)) else loanIn v n a p b
def loanOut (v : LV) (n : Nat) : Nat → Int × Int
  | 0 => (-4, owed (goV v n))
  | a + 1 => loanIn v n a (loanOut v n a) (vn v).toNat
def swapIn (v : LV) (n i : Nat) (p : Int × Int) : Nat → Int × Int
  | 0 => p
  | c + 1 => off (swapIn v n i p c) (10 * i + (i + 1 + c : Nat)) (owed (goV (swapV v i (i + 1 + c : Nat)) n))
def swapOut (v : LV) (n : Nat) : Nat → Int × Int
  | 0 => (-4, owed (goV v n))
  | i + 1 => swapIn v n i (swapOut v n i) ((vf v).toNat - (i + 1))
/-- weeks, fixture i rained off -/
def skV (v : LV) (i : Int) : Nat → LV
  | 0 => v
  | k + 1 => wkV (skV v i k) (if fixN (skV v i k) = i then 1 else 0)
def skipB (v : LV) (n : Nat) : Nat → Int × Int
  | 0 => (-4, owed (goV v n))
  | i + 1 => off (skipB v n i) i (owed (skV v i n))
def mostF (v : LV) (t : Int) (n : Nat) : Nat → Int
  | 0 => -4
  | k + 1 => if flN (setS v (fu (vS v) t k)) t n ≠ -4 then (k : Int) else mostF v t n k
def kindB (v : LV) (t : Int) (n : Nat) : Nat → Int × Int
  | 0 => (-4, 496)
  | k + 1 => off (kindB v t n k) k (owed (goV (setK v (fu (vK v) t k)) n))
theorem skV_WF {v : LV} (h : WF v) (i : Int) : ∀ k, WF (skV v i k)
  | 0 => h
  | k + 1 => wkV_WF (skV_WF h i k) _
theorem skV_w (v : LV) (i : Int) : ∀ k, vw (skV v i k) = vw v + k
  | 0 => by simp [skV]
  | k + 1 => by
    have := skV_w v i k
    show vw (wkV (skV v i k) _) = _
    rw [vw_wkV, this]; omega
theorem skV_f (v : LV) (i : Int) : ∀ k, vf (skV v i k) = vf v
  | 0 => rfl
  | k + 1 => (vf_wkV _ _).trans (skV_f v i k)
theorem setS_WF {v : LV} (h : WF v) (t x : Int) (hx : 0 ≤ x ∧ x ≤ 20) : WF (setS v (fu (vS v) t x)) := by
  obtain ⟨h1, h2, h3, h4, h5⟩ := h
  refine ⟨h1, h2, h3, fun k a b => ?_, h5⟩
  obtain ⟨a1, a2, a3, a4⟩ := h4 k a b
  refine ⟨a1, ?_, a3, a4⟩
  show 0 ≤ fu (vS v) t x k ∧ fu (vS v) t x k ≤ 20
  unfold fu; split <;> omega
theorem setK_WF {v : LV} (h : WF v) (t x : Int) (hx : 0 ≤ x ∧ x ≤ 3) : WF (setK v (fu (vK v) t x)) := by
  obtain ⟨h1, h2, h3, h4, h5⟩ := h
  refine ⟨h1, h2, h3, fun k a b => ?_, h5⟩
  obtain ⟨a1, a2, a3, a4⟩ := h4 k a b
  refine ⟨?_, a2, a3, a4⟩
  show 0 ≤ fu (vK v) t x k ∧ fu (vK v) t x k ≤ 3
  unfold fu; split <;> omega
theorem setL_WF {v : LV} (h : WF v) (t x : Int) (hx : 0 ≤ x ∧ x ≤ 99) : WF (setL v (fu (vL v) t x)) := by
  obtain ⟨h1, h2, h3, h4, h5⟩ := h
  refine ⟨h1, h2, h3, fun k a b => ?_, h5⟩
  obtain ⟨a1, a2, a3, a4⟩ := h4 k a b
  refine ⟨a1, a2, ?_, a4⟩
  show 0 ≤ fu (vL v) t x k ∧ fu (vL v) t x k ≤ 99
  unfold fu; split <;> omega
theorem setO_WF {v : LV} (h : WF v) (t x : Int) (hx : 0 ≤ x ∧ x ≤ 99) : WF (setO v (fu (vO v) t x)) := by
  obtain ⟨h1, h2, h3, h4, h5⟩ := h
  refine ⟨h1, h2, h3, fun k a b => ?_, h5⟩
  obtain ⟨a1, a2, a3, a4⟩ := h4 k a b
  refine ⟨a1, a2, a3, ?_⟩
  show 0 ≤ fu (vO v) t x k ∧ fu (vO v) t x k ≤ 99
  unfold fu; split <;> omega
theorem lendV_WF {v : LV} (h : WF v) {a b n : Int} (ha : 0 ≤ a ∧ a < vn v) (hb : 0 ≤ b ∧ b < vn v) (hn : 0 ≤ n) : WF (lendV v a b n) := by
  unfold lendV
  split
  · exact h
  · split
    · exact h
    · have qa := (h.2.2.2.1 a ha.1 ha.2).2.1
      have qb := (h.2.2.2.1 b hb.1 hb.2).2.1
      exact setS_WF (setS_WF h a _ (by omega)) b _ (by omega)
theorem swapV_WF {v : LV} (h : WF v) {i j : Int} (hi : 0 ≤ i ∧ i < vf v) (hj : 0 ≤ j ∧ j < vf v) : WF (swapV v i j) := by
  obtain ⟨h1, h2, h3, h4, h5⟩ := h
  refine ⟨h1, h2, h3, h4, fun k a b => ?_⟩
  have qi := h5 i hi.1 hi.2
  have qj := h5 j hj.1 hj.2
  have qk := h5 k a b
  show (0 ≤ fu (fu (vA v) i (vA v j)) j (vA v i) k ∧ fu (fu (vA v) i (vA v j)) j (vA v i) k < vn v) ∧ (0 ≤ fu (fu (vB v) i (vB v j)) j (vB v i) k ∧ fu (fu (vB v) i (vB v j)) j (vB v i) k < vn v) ∧ fu (fu (vA v) i (vA v j)) j (vA v i) k ≠ fu (fu (vB v) i (vB v j)) j (vB v i) k
  unfold fu
  by_cases e : k = j
  · rw [if_pos e, if_pos e]; exact qi
  · rw [if_neg e, if_neg e]
    by_cases e2 : k = i
    · rw [if_pos e2, if_pos e2]; exact qj
    · rw [if_neg e2, if_neg e2]; exact qk
theorem vw_lendV (v : LV) (a b n : Int) : vw (lendV v a b n) = vw v := by
  unfold lendV
  repeat' split
  all_goals rfl
def aLoan (s : ST) (n w : Int) : Int := if (0 ≤ n ∧ n ≤ 60) ∧ (0 ≤ w ∧ w ≤ 1) then ansB (loanOut (sV s) n.toNat (vn (sV s)).toNat) w else -1
def aSwap (s : ST) (n w : Int) : Int := if (0 ≤ n ∧ n ≤ 60) ∧ (0 ≤ w ∧ w ≤ 1) then ansB (swapOut (sV s) n.toNat (vf (sV s)).toNat) w else -1
def aSkip (s : ST) (n w : Int) : Int := if (0 ≤ n ∧ n ≤ 60) ∧ (0 ≤ w ∧ w ≤ 1) then ansB (skipB (sV s) n.toNat (vf (sV s)).toNat) w else -1
def aMost (s : ST) (t n : Int) : Int := if (0 ≤ t ∧ t < vn (sV s)) ∧ (0 ≤ n ∧ n ≤ 60) then mostF (sV s) t n.toNat 21 else -1
def aKind (s : ST) (t n w : Int) : Int := if (0 ≤ t ∧ t < vn (sV s)) ∧ (0 ≤ n ∧ n ≤ 60) ∧ (0 ≤ w ∧ w ≤ 1) then ansB (kindB (sV s) t n.toNat 4) w else -1
