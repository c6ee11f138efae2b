/-! ===== X: a walk's judgement over one flat world: what is made lies at the heap's end, so an object's number is its address less B; ints are told as Int ===== -/
abbrev Mem : Type := Nat → Int → Int
abbrev Shp : Type := Nat ⊕ (Nat × Nat)
abbrev Hp : Type := List Shp × (Nat → Nat → Option Nat) × Mem
abbrev XT : Type := MethodName × ByteArray × Nat × Option FieldType
abbrev GG : Type := Launch × va_G × (Nat → ClassId) × Nat × (Nat → Nat) × (Nat → Nat)
def gL (g : GG) : Launch := g.1
def gD (g : GG) : va_G := g.2.1
def gA (g : GG) : Nat → ClassId := g.2.2.1
def gB (g : GG) : Nat := g.2.2.2.1
def gK (g : GG) : Nat → Nat := g.2.2.2.2.1
def gV (g : GG) : Nat → Nat := g.2.2.2.2.2
def iv (a : Int) : Value := .int (Int32.ofInt a)
def jv (a : Int) : Value := .long (Int64.ofInt a)
def rv (g : GG) (i : Nat) : Value := .ref (gB g + i)
abbrev xcl : List vw_C := [(RX0, TX0, 2), (RX1, TX1, 9), (RX2, TX2, 3), (RX3, TX3, 3), (RX4, TX4, 2), (RX5, TX5, 7), (RX6, TX6, 13), (RX7, TX7, 29)]
def xC : Nat → String
  | 0 => RX0 | 1 => RX1 | 2 => RX2 | 3 => RX3 | 4 => RX4 | 5 => RX5 | 6 => RX6 | _ => RX7
def xT : Nat → u_T
  | 0 => TX0 | 1 => TX1 | 2 => TX2 | 3 => TX3 | 4 => TX4 | 5 => TX5 | 6 => TX6 | _ => TX7
def xN : Nat → Nat
  | 0 => 2 | 1 => 9 | 2 => 3 | 3 => 3 | 4 => 2 | 5 => 7 | 6 => 13 | _ => 29
def xty : Nat → Nat → FieldType
  | 0 => tyX0 | 1 => tyX1 | 2 => tyX2 | 3 => tyX3 | 4 => tyX4 | 5 => tyX5 | 6 => tyX6 | _ => tyX7
theorem xcl_at {ci : Nat} (h : ci < 8) : xcl[ci]? = some (xC ci, xT ci, xN ci) := by
  match ci, h with
  | 0, _ => rfl
  | 1, _ => rfl
  | 2, _ => rfl
  | 3, _ => rfl
  | 4, _ => rfl
  | 5, _ => rfl
  | 6, _ => rfl
  | 7, _ => rfl
theorem xty_ok {ci : Nat} (h : ci < 8) : ∀ k, k < xN ci → parseFieldDescriptor (xT ci k).2.2.1 = some (xty ci k) := by
  match ci, h with
  | 0, _ => exact tyX0_ok
  | 1, _ => exact tyX1_ok
  | 2, _ => exact tyX2_ok
  | 3, _ => exact tyX3_ok
  | 4, _ => exact tyX4_ok
  | 5, _ => exact tyX5_ok
  | 6, _ => exact tyX6_ok
  | 7, _ => exact tyX7_ok
theorem xnm {ci : Nat} (h : ci < 8) : ∀ a, a < xN ci → ∀ b, b < xN ci → a ≠ b → (xT ci a).2.1 ≠ (xT ci b).2.1 := by
  match ci, h with
  | 0, _ => exact nmX0
  | 1, _ => exact nmX1
  | 2, _ => exact nmX2
  | 3, _ => exact nmX3
  | 4, _ => exact nmX4
  | 5, _ => exact nmX5
  | 6, _ => exact nmX6
  | 7, _ => exact nmX7
/-- is a field of class ci a reference -/
def xRef (ci k : Nat) : Bool := match xty ci k with
  | .int => false
  | _ => true
theorem xRef_int {ci k : Nat} (h : xRef ci k = false) : xty ci k = .int := by
  unfold xRef at h
  split at h
  · assumption
  · cases h
def xTy : Nat → FieldType
  | 0 => .int | 1 => .byte | 2 => .boolean | 3 => .object RX1 | _ => .object RX2
def xtys (g : GG) : List (ClassId × FieldType) := [(gA g 0, .int), (gA g 1, .byte), (gA g 2, .boolean), (gA g 3, .object RX1), (gA g 4, .object RX2)]
/-- the tables' words that may be handed on -/
def xG : List Cond := lw_tbl.filter goodWord
theorem xm {w : Cond} (k : Nat) (h : tables_1[k]? = some w) (hg : goodWord w = true) : w ∈ xG :=
  List.mem_filter.mpr ⟨List.mem_append_right _ (List.mem_of_getElem? h), hg⟩
theorem xmp {y : MethodName} (k : Nat) (h : (lw_privs[k]?).map (fun q => q.1) = some y) : Cond.selects y.cls y y ∈ xG := by
  refine List.mem_filter.mpr ⟨List.mem_append_left _ ?_, rfl⟩
  cases e : lw_privs[k]? with
  | none => rw [e] at h; cases h
  | some q =>
    rw [e] at h
    cases h
    exact List.mem_map.mpr ⟨q, List.mem_of_getElem? e, rfl⟩
def xws (T : XT) : List Cond := Cond.code T.1 T.2.1 T.2.2.1 T.2.2.2 :: xG
theorem xgood {T : XT} (h : Cond.code T.1 T.2.1 T.2.2.1 T.2.2.2 ∈ xG) : GoodIn xG (xws T) := by
  intro w hw
  rcases List.mem_cons.mp hw with rfl | hw
  · exact ⟨h, good_of_word (List.mem_filter.mp h).2⟩
  · exact ⟨hw, good_of_word (List.mem_filter.mp hw).2⟩
/-! the cells -/
def xF (g : GG) (hp : Hp) (i ci k : Nat) : Value := if xRef ci k = true then va_rf ((hp.2.1 i k).map (fun q => gB g + q)) else iv (hp.2.2 i (k : Int))
def xE (g : GG) (hp : Hp) (i : Nat) (s : Shp) : va_E := match s with
  | .inl ci => .inr (ci, (List.range (xN ci)).map (xF g hp i ci))
  | .inr (t, n) => .inl (gA g t, n, if t < 3 then .inl (fun j => Int32.ofInt (hp.2.2 i (j : Int))) else .inr (.inr (.inr (.inr (fun j => (hp.2.1 i j).map (fun q => gB g + q))))))
def xW (g : GG) (hp : Hp) : va_W := (List.range hp.1.length).map (fun i => (gB g + i, xE g hp i (hp.1.getD i (.inl 0))))
def xI (g : GG) (hp : Hp) (H : Heap) : Prop := va_P (gD g) xcl (xW g hp) H ∧ ∀ i k, -2147483648 ≤ hp.2.2 i k ∧ hp.2.2 i k ≤ 2147483647
theorem xW_len (g : GG) (hp : Hp) : (xW g hp).length = hp.1.length := by simp [xW]
theorem xW_get (g : GG) (hp : Hp) (i : Nat) : (xW g hp)[i]? = if i < hp.1.length then some (gB g + i, xE g hp i (hp.1.getD i (.inl 0))) else none := by
  unfold xW
  by_cases h : i < hp.1.length
  · rw [if_pos h]; simp [h]
  · rw [if_neg h]; simp [h]
theorem xW_at {g : GG} {hp : Hp} {i : Nat} {s : Shp} (h : hp.1[i]? = some s) : (xW g hp)[i]? = some (gB g + i, xE g hp i s) := by
  have hl : i < hp.1.length := (List.getElem?_eq_some_iff.mp h).1
  rw [xW_get, if_pos hl]
  have : hp.1.getD i (.inl 0) = s := by simp [List.getD, h]
  rw [this]
theorem xDD (g : GG) (hp : Hp) : va_D (fun q => gB g ≤ q) (xW g hp) := by
  refine ⟨fun i j p q h1 h2 e => ?_, fun k q h => ?_⟩
  · rw [xW_get] at h1 h2
    split at h1
    · split at h2
      · cases h1; cases h2
        have e : gB g + i = gB g + j := e
        omega
      · cases h2
    · cases h1
  · rw [xW_get] at h
    split at h
    · cases h; exact Nat.le_add_right _ _
    · cases h
theorem xE_cong {g : GG} {hp hp' : Hp} {i : Nat} (s : Shp) (h1 : hp'.2.1 i = hp.2.1 i) (h2 : hp'.2.2 i = hp.2.2 i) : xE g hp' i s = xE g hp i s := by
  cases s with
  | inl ci =>
    have : xF g hp' i ci = xF g hp i ci := by
      funext k
      simp only [xF, h1, h2]
    simp only [xE, this]
  | inr q => simp only [xE, h1, h2]
theorem xW_upd {g : GG} {hp hp' : Hp} {i : Nat} {s : Shp} (h : hp.1[i]? = some s) (hs : hp'.1 = hp.1) (h1 : ∀ j, j ≠ i → hp'.2.1 j = hp.2.1 j) (h2 : ∀ j, j ≠ i → hp'.2.2 j = hp.2.2 j) :
    (xW g hp).set i (gB g + i, xE g hp' i s) = xW g hp' := by
  have hl : i < hp.1.length := (List.getElem?_eq_some_iff.mp h).1
  apply List.ext_getElem?
  intro j
  rw [List.getElem?_set, xW_get, xW_get, xW_len, hs]
  by_cases hj : i = j
  · subst hj
    have : hp.1.getD i (.inl 0) = s := by simp [List.getD, h]
    rw [if_pos rfl, if_pos hl, if_pos hl, this]
  · rw [if_neg hj, xE_cong (hp := hp) (hp' := hp') (i := j) _ (h1 j (fun e => hj e.symm)) (h2 j (fun e => hj e.symm))]
theorem xW_push {g : GG} {sh : List Shp} {rf rf' : Nat → Nat → Option Nat} {M M' : Mem} {s : Shp} (h1 : ∀ j, j < sh.length → rf' j = rf j) (h2 : ∀ j, j < sh.length → M' j = M j) :
    xW g (sh, rf, M) ++ [(gB g + sh.length, xE g (sh ++ [s], rf', M') sh.length s)] = xW g (sh ++ [s], rf', M') := by
  apply List.ext_getElem?
  intro j
  rw [xW_get]
  show _ = if j < (sh ++ [s]).length then _ else _
  by_cases hj : j < sh.length
  · rw [List.getElem?_append_left (by rw [xW_len]; exact hj), xW_get]
    show (if j < sh.length then _ else _) = _
    rw [if_pos hj, if_pos (by simp; omega)]
    show some (gB g + j, xE g (sh, rf, M) j (sh.getD j (.inl 0))) = some (gB g + j, xE g (sh ++ [s], rf', M') j ((sh ++ [s]).getD j (.inl 0)))
    have e1 : (sh ++ [s]).getD j (.inl 0) = sh.getD j (.inl 0) := by
      simp [List.getD, List.getElem?_append_left hj]
    have e2 : xE g (sh ++ [s], rf', M') j (sh.getD j (.inl 0)) = xE g (sh, rf, M) j (sh.getD j (.inl 0)) := by
      generalize sh.getD j (.inl 0) = z
      have a1 := h1 j hj
      have a2 := h2 j hj
      cases z with
      | inl ci =>
        have : xF g (sh ++ [s], rf', M') j ci = xF g (sh, rf, M) j ci := by
          funext k
          simp only [xF, a1, a2]
        simp only [xE, this]
      | inr q => simp only [xE, a1, a2]
    rw [e1, e2]
  · rw [List.getElem?_append_right (by rw [xW_len]; exact Nat.le_of_not_lt hj), xW_len]
    show ([_] : va_W)[j - sh.length]? = _
    by_cases hk : j = sh.length
    · subst hk
      rw [if_pos (by simp)]
      have e1 : (sh ++ [s]).getD sh.length (.inl 0) = s := by simp [List.getD]
      rw [Nat.sub_self]
      show some _ = some (gB g + sh.length, xE g (sh ++ [s], rf', M') sh.length ((sh ++ [s]).getD sh.length (.inl 0)))
      rw [e1]
    · rw [if_neg (by simp; omega)]
      have : ¬ j - sh.length < 1 := by omega
      simp [this]
