/-! ===== the league's value, and what a week does to it ===== -/
abbrev LV : Type := Int × Int × Int × (Int → Int) × (Int → Int) × (Int → Int) × (Int → Int) × (Int → Int) × (Int → Int)
def vn (v : LV) : Int := v.1
def vf (v : LV) : Int := v.2.1
def vw (v : LV) : Int := v.2.2.1
def vK (v : LV) : Int → Int := v.2.2.2.1
def vS (v : LV) : Int → Int := v.2.2.2.2.1
def vL (v : LV) : Int → Int := v.2.2.2.2.2.1
def vO (v : LV) : Int → Int := v.2.2.2.2.2.2.1
def vA (v : LV) : Int → Int := v.2.2.2.2.2.2.2.1
def vB (v : LV) : Int → Int := v.2.2.2.2.2.2.2.2
def fu (f : Int → Int) (k x : Int) : Int → Int := fun t => if t = k then x else f t
theorem fu_s (f : Int → Int) (k x : Int) : fu f k x k = x := by simp [fu]
theorem fu_n (f : Int → Int) {k t : Int} (x : Int) (h : t ≠ k) : fu f k x t = f t := by simp [fu, h]
def pW (v : LV) (t : Int) : Int := if vL v t = 0 then vS v t / 2 else vS v t
def plays (v : LV) (t : Int) : Int := if vK v t = 0 then vS v t else if vK v t = 1 then vS v t + 3 else if vK v t = 2 then pW v t else max 0 (pW v t - 2)
def trains (v : LV) (t : Int) : Int := if vK v t = 1 then 2 else if vK v t = 3 then 0 else 1
def weaker (v : LV) (a b : Int) : Int := if plays v a < plays v b then a else if plays v b < plays v a then b else -4
/-- l loses to w -/
def beat (v : LV) (l w : Int) : LV := (vn v, vf v, vw v, vK v, fu (fu (vS v) l (min 20 (vS v l + trains v l))) w (max 0 (vS v w - 1)), fu (vL v) l (min 99 (vL v l + 1)), vO v, vA v, vB v)
def game (v : LV) (a b : Int) : LV := if plays v a < plays v b then beat v a b else if plays v b < plays v a then beat v b a else v
def yearEnd (v : LV) : LV := (vn v, vf v, vw v, vK v, vS v, fun _ => 0, fun t => if vL v t = 0 then min 99 (vO v t + 1) else vO v t, vA v, vB v)
def setW (v : LV) (w : Int) : LV := (vn v, vf v, w, vK v, vS v, vL v, vO v, vA v, vB v)
def isLast (v : LV) : Prop := 0 < vf v ∧ vw v % vf v = vf v - 1
def pass (v : LV) : LV := if 0 < vf v ∧ vw v % vf v = vf v - 1 then setW (yearEnd v) (vw v + 1) else setW v (vw v + 1)
def wkL (v : LV) (r : Int) : Int := if 0 < vf v ∧ r = 0 then weaker v (vA v (vw v % vf v)) (vB v (vw v % vf v)) else -4
def wkV (v : LV) (r : Int) : LV := pass (if 0 < vf v ∧ r = 0 then game v (vA v (vw v % vf v)) (vB v (vw v % vf v)) else v)
/-- n dry weeks, and how many are lost in them -/
def goV (v : LV) : Nat → LV
  | 0 => v
  | n + 1 => wkV (goV v n) 0
def goL (v : LV) : Nat → Int
  | 0 => 0
  | n + 1 => goL v n + (if 0 ≤ wkL (goV v n) 0 then 1 else 0)
def sumN (f : Int → Int) : Nat → Int
  | 0 => 0
  | n + 1 => sumN f n + f n
def owed (v : LV) : Int := sumN (vO v) (vn v).toNat
def WF (v : LV) : Prop := (0 ≤ vn v ∧ vn v ≤ 5) ∧ (0 ≤ vf v ∧ vf v ≤ 10) ∧ 0 ≤ vw v ∧ (∀ t, 0 ≤ t → t < vn v → (0 ≤ vK v t ∧ vK v t ≤ 3) ∧ (0 ≤ vS v t ∧ vS v t ≤ 20) ∧ (0 ≤ vL v t ∧ vL v t ≤ 99) ∧ (0 ≤ vO v t ∧ vO v t ≤ 99)) ∧ (∀ i, 0 ≤ i → i < vf v → (0 ≤ vA v i ∧ vA v i < vn v) ∧ (0 ≤ vB v i ∧ vB v i < vn v) ∧ vA v i ≠ vB v i)
/-- the league object o holds v -/
def Rep (M : Mem) (o : Nat) (v : LV) : Prop := M o 6 = vn v ∧ M o 7 = vf v ∧ M o 8 = vw v ∧ (∀ t, 0 ≤ t → t < vn v → M (o + 1) t = vK v t ∧ M (o + 2) t = vS v t ∧ M (o + 3) t = vL v t ∧ M (o + 4) t = vO v t) ∧ (∀ i, 0 ≤ i → i < vf v → M (o + 5) i = vA v i ∧ M (o + 6) i = vB v i)
/-- nothing but league o has changed -/
def Fr (o : Nat) (M M2 : Mem) : Prop := ∀ a, (a < o ∨ o + 6 < a) → M2 a = M a
theorem Fr.rf (o : Nat) (M : Mem) : Fr o M M := fun _ _ => rfl
theorem Fr.tr {o : Nat} {M M2 M3 : Mem} (h : Fr o M M2) (h2 : Fr o M2 M3) : Fr o M M3 := fun a ha => (h2 a ha).trans (h a ha)
theorem Fr.up {o : Nat} {M M2 : Mem} (h : Fr o M M2) (i : Nat) (k x : Int) (hi : o ≤ i ∧ i ≤ o + 6) : Fr o M (up2 M2 i k x) := fun a ha => by rw [up2_o M2 k x (by omega)]; exact h a ha
theorem Rep.keep {M M2 : Mem} {o : Nat} {v : LV} (h : Rep M o v) (e : ∀ a, o ≤ a → a ≤ o + 6 → M2 a = M a) : Rep M2 o v := by
  unfold Rep
  rw [e o (by omega) (by omega), e (o + 1) (by omega) (by omega), e (o + 2) (by omega) (by omega), e (o + 3) (by omega) (by omega), e (o + 4) (by omega) (by omega), e (o + 5) (by omega) (by omega), e (o + 6) (by omega) (by omega)]
  exact h
theorem pW_bd {v : LV} {t : Int} (h : 0 ≤ vS v t ∧ vS v t ≤ 20) : 0 ≤ pW v t ∧ pW v t ≤ 20 := by
  unfold pW; split <;> omega
theorem plays_bd {v : LV} {t : Int} (h : 0 ≤ vS v t ∧ vS v t ≤ 20) : 0 ≤ plays v t ∧ plays v t ≤ 23 := by
  have := pW_bd h
  unfold plays; split
  · omega
  · split
    · omega
    · split <;> omega
theorem trains_bd (v : LV) (t : Int) : 0 ≤ trains v t ∧ trains v t ≤ 2 := by
  unfold trains; split
  · omega
  · split <;> omega
theorem vn_wkV (v : LV) (r : Int) : vn (wkV v r) = vn v := by
  unfold wkV pass game beat setW yearEnd vn
  repeat' split
  all_goals rfl
theorem vf_wkV (v : LV) (r : Int) : vf (wkV v r) = vf v := by
  unfold wkV pass game beat setW yearEnd vf
  repeat' split
  all_goals rfl
theorem vK_wkV (v : LV) (r : Int) : vK (wkV v r) = vK v := by
  unfold wkV pass game beat setW yearEnd vK
  repeat' split
  all_goals rfl
theorem vA_wkV (v : LV) (r : Int) : vA (wkV v r) = vA v := by
  unfold wkV pass game beat setW yearEnd vA
  repeat' split
  all_goals rfl
theorem vB_wkV (v : LV) (r : Int) : vB (wkV v r) = vB v := by
  unfold wkV pass game beat setW yearEnd vB
  repeat' split
  all_goals rfl
theorem beat_WF {v : LV} (h : WF v) {l w : Int} (hl : 0 ≤ l ∧ l < vn v) (hw : 0 ≤ w ∧ w < vn v) : WF (beat v l w) := by
  obtain ⟨h1, h2, h3, h4, h5⟩ := h
  refine ⟨h1, h2, h3, fun t a b => ?_, h5⟩
  have ht := h4 t a b
  have hL := h4 l hl.1 hl.2
  have hW := h4 w hw.1 hw.2
  have hb := trains_bd v l
  refine ⟨ht.1, ?_, ?_, ht.2.2.2⟩
  · show 0 ≤ fu (fu (vS v) l (min 20 (vS v l + trains v l))) w (max 0 (vS v w - 1)) t ∧ fu (fu (vS v) l (min 20 (vS v l + trains v l))) w (max 0 (vS v w - 1)) t ≤ 20
    unfold fu
    split
    · omega
    · split <;> omega
  · show 0 ≤ fu (vL v) l (min 99 (vL v l + 1)) t ∧ fu (vL v) l (min 99 (vL v l + 1)) t ≤ 99
    unfold fu
    split <;> omega
theorem game_WF {v : LV} (h : WF v) {a b : Int} (ha : 0 ≤ a ∧ a < vn v) (hb : 0 ≤ b ∧ b < vn v) : WF (game v a b) := by
  unfold game
  split
  · exact beat_WF h ha hb
  · split
    · exact beat_WF h hb ha
    · exact h
theorem yearEnd_WF {v : LV} (h : WF v) : WF (yearEnd v) := by
  obtain ⟨h1, h2, h3, h4, h5⟩ := h
  refine ⟨h1, h2, h3, fun t a b => ?_, h5⟩
  have ht := h4 t a b
  refine ⟨ht.1, ht.2.1, ?_, ?_⟩
  · show (0 : Int) ≤ 0 ∧ (0 : Int) ≤ 99
    omega
  · show 0 ≤ (if vL v t = 0 then min 99 (vO v t + 1) else vO v t) ∧ (if vL v t = 0 then min 99 (vO v t + 1) else vO v t) ≤ 99
    split <;> omega
theorem setW_WF {v : LV} (h : WF v) {w : Int} (hw : 0 ≤ w) : WF (setW v w) := ⟨h.1, h.2.1, hw, h.2.2.2.1, h.2.2.2.2⟩
theorem pass_WF {v : LV} (h : WF v) : WF (pass v) := by
  have hw := h.2.2.1
  unfold pass
  split
  · exact setW_WF (yearEnd_WF h) (by omega)
  · exact setW_WF h (by omega)
theorem now_in {v : LV} (h : WF v) (hf : 0 < vf v) : 0 ≤ vw v % vf v ∧ vw v % vf v < vf v := ⟨Int.emod_nonneg _ (by omega), Int.emod_lt_of_pos _ hf⟩
theorem wkV_WF {v : LV} (h : WF v) (r : Int) : WF (wkV v r) := by
  unfold wkV
  apply pass_WF
  split
  · next hf =>
    have hi := now_in h hf.1
    have h5 := h.2.2.2.2 _ hi.1 hi.2
    exact game_WF h h5.1 h5.2.1
  · exact h
theorem vw_game (v : LV) (a b : Int) : vw (game v a b) = vw v := by
  unfold game beat vw
  repeat' split
  all_goals rfl
theorem vw_pass (v : LV) : vw (pass v) = vw v + 1 := by
  unfold pass
  split <;> rfl
theorem vw_wkV (v : LV) (r : Int) : vw (wkV v r) = vw v + 1 := by
  unfold wkV
  rw [vw_pass]
  split
  · rw [vw_game]
  · rfl
theorem goV_WF {v : LV} (h : WF v) : ∀ n, WF (goV v n)
  | 0 => h
  | n + 1 => wkV_WF (goV_WF h n) 0
theorem goV_w (v : LV) : ∀ n, vw (goV v n) = vw v + n
  | 0 => by simp [goV]
  | n + 1 => by
    have := goV_w v n
    show vw (wkV (goV v n) 0) = _
    rw [vw_wkV, this]
    omega
theorem goV_n (v : LV) : ∀ n, vn (goV v n) = vn v
  | 0 => rfl
  | n + 1 => (vn_wkV _ _).trans (goV_n v n)
theorem goV_f (v : LV) : ∀ n, vf (goV v n) = vf v
  | 0 => rfl
  | n + 1 => (vf_wkV _ _).trans (goV_f v n)
theorem goL_bd (v : LV) : ∀ n, 0 ≤ goL v n ∧ goL v n ≤ n
  | 0 => by simp [goL]
  | n + 1 => by
    have := goL_bd v n
    show 0 ≤ goL v n + _ ∧ goL v n + _ ≤ _
    split <;> omega
theorem weaker_in {v : LV} {a b : Int} : weaker v a b = a ∨ weaker v a b = b ∨ weaker v a b = -4 := by
  unfold weaker
  split
  · exact Or.inl rfl
  · split
    · exact Or.inr (Or.inl rfl)
    · exact Or.inr (Or.inr rfl)
theorem wkL_in {v : LV} (h : WF v) (r : Int) : wkL v r = -4 ∨ (0 ≤ wkL v r ∧ wkL v r < vn v) := by
  unfold wkL
  split
  · next hf =>
    have hi := now_in h hf.1
    have h5 := h.2.2.2.2 _ hi.1 hi.2
    rcases weaker_in (v := v) (a := vA v (vw v % vf v)) (b := vB v (vw v % vf v)) with q | q | q
    · rw [q]; exact Or.inr h5.1
    · rw [q]; exact Or.inr h5.2.1
    · exact Or.inl q
  · exact Or.inl rfl
theorem sumN_bd {f : Int → Int} {c : Int} (hc : 0 ≤ c) : ∀ n : Nat, (∀ t : Int, 0 ≤ t → t < n → 0 ≤ f t ∧ f t ≤ c) → 0 ≤ sumN f n ∧ sumN f n ≤ n * c
  | 0, _ => by simp [sumN]
  | n + 1, h => by
    have h1 := sumN_bd hc n (fun t a b => h t a (by omega))
    have h2 := h n (by omega) (by omega)
    show 0 ≤ sumN f n + f n ∧ sumN f n + f n ≤ _
    rw [show ((n + 1 : Nat) : Int) * c = n * c + c by rw [Int.natCast_add, Int.add_mul]; simp]
    omega
theorem sumN_cong {f f2 : Int → Int} : ∀ n : Nat, (∀ t : Int, 0 ≤ t → t < n → f t = f2 t) → sumN f n = sumN f2 n
  | 0, _ => rfl
  | n + 1, h => by
    show sumN f n + f n = sumN f2 n + f2 n
    rw [sumN_cong n (fun t a b => h t a (by omega)), h n (by omega) (by omega)]
theorem owed_bd {v : LV} (h : WF v) : 0 ≤ owed v ∧ owed v ≤ 495 := by
  have := sumN_bd (f := vO v) (c := 99) (by omega) (vn v).toNat (fun t a b => (h.2.2.2.1 t a (by omega)).2.2.2)
  have h1 := h.1
  unfold owed
  refine ⟨this.1, Int.le_trans this.2 ?_⟩
  have : ((vn v).toNat : Int) ≤ 5 := by omega
  omega
