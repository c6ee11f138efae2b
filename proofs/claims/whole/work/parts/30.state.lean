/-! ===== the whole state, told once for both sides ===== -/
abbrev ST : Type := LV × Int × Int × LV × LV × Int × (Int → Int) × Int × (Int → Int) × (Int → Int) × (Nat → Int) × (Nat → Int) × (Nat → Int → Int) × Int × Int
def sV (s : ST) : LV := s.1
def k0 (s : ST) : Int := s.2.1
def k1 (s : ST) : Int := s.2.2.1
def i0 (s : ST) : LV := s.2.2.2.1
def i1 (s : ST) : LV := s.2.2.2.2.1
def tl (s : ST) : Int := s.2.2.2.2.2.1
def tb (s : ST) : Int → Int := s.2.2.2.2.2.2.1
def sc (s : ST) : Int := s.2.2.2.2.2.2.2.1
def sw (s : ST) : Int → Int := s.2.2.2.2.2.2.2.2.1
def sl (s : ST) : Int → Int := s.2.2.2.2.2.2.2.2.2.1
def zz (s : ST) : Nat → Int := s.2.2.2.2.2.2.2.2.2.2.1
def zl (s : ST) : Nat → Int := s.2.2.2.2.2.2.2.2.2.2.2.1
def zc (s : ST) : Nat → Int → Int := s.2.2.2.2.2.2.2.2.2.2.2.2.1
def tn (s : ST) : Int := s.2.2.2.2.2.2.2.2.2.2.2.2.2.1
def fa (s : ST) : Int := s.2.2.2.2.2.2.2.2.2.2.2.2.2.2
def uV (s : ST) (v : LV) : ST := (v, k0 s, k1 s, i0 s, i1 s, tl s, tb s, sc s, sw s, sl s, zz s, zl s, zc s, tn s, fa s)
def uT (s : ST) (n : Int) (b : Int → Int) : ST := (sV s, k0 s, k1 s, i0 s, i1 s, n, b, sc s, sw s, sl s, zz s, zl s, zc s, tn s, fa s)
def uS (s : ST) (n : Int) (w l : Int → Int) : ST := (sV s, k0 s, k1 s, i0 s, i1 s, tl s, tb s, n, w, l, zz s, zl s, zc s, tn s, fa s)
def uK (s : ST) (a b : Int) (x y : LV) : ST := (sV s, a, b, x, y, tl s, tb s, sc s, sw s, sl s, zz s, zl s, zc s, tn s, fa s)
def uZ (s : ST) (a b : Nat → Int) (c : Nat → Int → Int) : ST := (sV s, k0 s, k1 s, i0 s, i1 s, tl s, tb s, sc s, sw s, sl s, a, b, c, tn s, fa s)
def uN (s : ST) (x : Int) : ST := (sV s, k0 s, k1 s, i0 s, i1 s, tl s, tb s, sc s, sw s, sl s, zz s, zl s, zc s, x, fa s)
def uF (s : ST) (x : Int) : ST := (sV s, k0 s, k1 s, i0 s, i1 s, tl s, tb s, sc s, sw s, sl s, zz s, zl s, zc s, tn s, x)
def ImgOK (v : LV) (k : Int) (i : LV) : Prop := (k = 0 ∨ k = 1) ∧ (k = 1 → WF i ∧ vw i ≤ 999 ∧ vn i = vn v)
def SOK (s : ST) : Prop := WF (sV s) ∧ vw (sV s) ≤ 999 ∧ ImgOK (sV s) (k0 s) (i0 s) ∧ ImgOK (sV s) (k1 s) (i1 s) ∧ (0 ≤ tl s ∧ tl s ≤ 160) ∧ (∀ i, 0 ≤ i → i < tl s → 0 ≤ tb s i ∧ tb s i ≤ 127) ∧ (0 ≤ sc s ∧ sc s ≤ 6) ∧ (∀ i, 0 ≤ i → i < sc s → (0 ≤ sw s i ∧ sw s i ≤ 20) ∧ (0 ≤ sl s i ∧ sl s i ≤ 9)) ∧ (∀ k, k < 4 → (-1 ≤ zz s k ∧ zz s k ≤ 40) ∧ (zz s k ≠ -1 → 0 ≤ zl s k ∧ zl s k ≤ 2) ∧ ∀ i, 0 ≤ i → i < zz s k → -2147483648 ≤ zc s k i ∧ zc s k i ≤ 2147483647)
/-- the class's object holds s -/
def Cls (M : Mem) (s : ST) : Prop := Rep M 4 (sV s) ∧ (M 19 0 = k0 s ∧ M 19 1 = k1 s ∧ (k0 s = 1 → Rep M 28 (i0 s)) ∧ (k1 s = 1 → Rep M 35 (i1 s))) ∧ (M 2 1 = tl s ∧ ∀ i, 0 ≤ i → i < tl s → M 3 i = tb s i) ∧ (M 21 2 = sc s ∧ ∀ i, 0 ≤ i → i < sc s → M 22 i = sw s i ∧ M 23 i = sl s i) ∧ (∀ k, k < 4 → M (42 + 2 * k) 2 = zz s k ∧ (zz s k ≠ -1 → M (42 + 2 * k) 1 = zl s k) ∧ ∀ i, 0 ≤ i → i < zz s k → M (43 + 2 * k) i = zc s k i) ∧ M 0 12 = tn s ∧ M 1 5 = fa s
def Scr (a : Nat) : Prop := (11 ≤ a ∧ a ≤ 17) ∨ (24 ≤ a ∧ a ≤ 27)
theorem Cls.keep {M M2 : Mem} {s : ST} (h : Cls M s) (e : ∀ a, a < 50 → ¬ Scr a → M2 a = M a) : Cls M2 s := by
  obtain ⟨h1, ⟨h2, h3, h4, h5⟩, h6, h7, h8, h9, h10⟩ := h
  refine ⟨h1.keep (fun a x y => e a (by omega) (by unfold Scr; omega)), ⟨?_, ?_, fun q => (h4 q).keep (fun a x y => e a (by omega) (by unfold Scr; omega)), fun q => (h5 q).keep (fun a x y => e a (by omega) (by unfold Scr; omega))⟩, ?_, ?_, fun k hk => ?_, ?_, ?_⟩
  · rw [e 19 (by omega) (by unfold Scr; omega)]; exact h2
  · rw [e 19 (by omega) (by unfold Scr; omega)]; exact h3
  · rw [e 2 (by omega) (by unfold Scr; omega), e 3 (by omega) (by unfold Scr; omega)]; exact h6
  · rw [e 21 (by omega) (by unfold Scr; omega), e 22 (by omega) (by unfold Scr; omega), e 23 (by omega) (by unfold Scr; omega)]; exact h7
  · rw [e (42 + 2 * k) (by omega) (by unfold Scr; omega), e (43 + 2 * k) (by omega) (by unfold Scr; omega)]; exact h8 k hk
  · rw [e 0 (by omega) (by unfold Scr; omega)]; exact h9
  · rw [e 1 (by omega) (by unfold Scr; omega)]; exact h10
theorem Cls.uV {M M2 : Mem} {s : ST} {v : LV} (h : Cls M s) (hR : Rep M2 4 v) (hF : Fr 4 M M2) : Cls M2 (uV s v) := by
  obtain ⟨h1, ⟨h2, h3, h4, h5⟩, h6, h7, h8, h9, h10⟩ := h
  refine ⟨hR, ⟨?_, ?_, fun q => (h4 q).keep (fun a x y => hF a (by omega)), fun q => (h5 q).keep (fun a x y => hF a (by omega))⟩, ?_, ?_, fun k hk => ?_, ?_, ?_⟩
  · rw [hF 19 (by omega)]; exact h2
  · rw [hF 19 (by omega)]; exact h3
  · rw [hF 2 (by omega), hF 3 (by omega)]; exact h6
  · rw [hF 21 (by omega), hF 22 (by omega), hF 23 (by omega)]; exact h7
  · rw [hF (42 + 2 * k) (by omega), hF (43 + 2 * k) (by omega)]; exact h8 k hk
  · rw [hF 0 (by omega)]; exact h9
  · rw [hF 1 (by omega)]; exact h10
/-- how a call of the class ends -/
def PC (M : Mem) (r0 : Int) (s : ST) : Int → Mem → Prop := fun r M2 => r = r0 ∧ Cls M2 s ∧ ∀ a, 50 ≤ a → M2 a = M a
theorem PC.same {M : Mem} {r r0 : Int} {s : ST} (hC : Cls M s) (h : r = r0) : PC M r0 s r M := ⟨h, hC, fun _ _ => rfl⟩
theorem PC.scr {M M2 : Mem} {r r0 : Int} {s : ST} (hC : Cls M s) (h : r = r0) (e : ∀ a, ¬ Scr a → M2 a = M a) : PC M r0 s r M2 := ⟨h, hC.keep (fun a _ hs => e a hs), fun a ha => e a (by unfold Scr; omega)⟩
theorem PC.trial {M M2 : Mem} {r r0 : Int} {s : ST} (hC : Cls M s) (h : r = r0) (e : Fr 11 M M2) : PC M r0 s r M2 := PC.scr hC h (fun a hs => e a (by unfold Scr at hs; omega))
theorem PC.lg {M M2 : Mem} {r r0 : Int} {s : ST} {v : LV} (hC : Cls M s) (h : r = r0) (hR : Rep M2 4 v) (hF : Fr 4 M M2) : PC M r0 (uV s v) r M2 := ⟨h, hC.uV hR hF, fun a ha => hF a (by omega)⟩
/-! what the calls answer -/
def fixN (v : LV) : Int := if 0 < vf v then vw v % vf v else -4
def aFeed (s : ST) (c : Int) : Int := if 0 ≤ c ∧ c ≤ 127 then (if tl s < 160 then tl s + 1 else -3) else -1
def nFeed (s : ST) (c : Int) : ST := if 0 ≤ c ∧ c ≤ 127 then (if tl s < 160 then uT s (tl s + 1) (fu (tb s) (tl s) c) else s) else s
def aEnd (s : ST) (n : Int) : Int := if 0 ≤ n ∧ n ≤ tl s then tl s else -1
def nEnd (s : ST) (n : Int) : ST := if 0 ≤ n ∧ n ≤ tl s then uT s n (tb s) else s
def txt (s : ST) : PR := prs (tb s) (tl s) 16 0 LV0 0
def aText (s : ST) : Int := if (txt s).1 = 0 then (txt s).2.2.1 else -10 - (txt s).2.1
def nText (s : ST) : ST := if (txt s).1 = 0 then uS (uK (uV (uF (uT s 0 (tb s)) (txt s).1) (txt s).2.2.2) 0 0 (i0 s) (i1 s)) 0 (sw s) (sl s) else uF (uT s 0 (tb s)) (txt s).1
def aRule (s : ST) (w : Int) : Int := if w = 0 then vn (sV s) else if w = 1 then vf (sV s) else if w = 2 then vw (sV s) else if w = 3 then fixN (sV s) else if w = 4 then (lossB (sV s) : Int) else if w = 5 then owed (sV s) else -1
def isT (v : LV) (t : Int) : Prop := 0 ≤ t ∧ t < vn v
def aTown (s : ST) (t w : Int) : Int := if 0 ≤ t ∧ t < vn (sV s) then (if w = 0 then vK (sV s) t else if w = 1 then vS (sV s) t else if w = 2 then vL (sV s) t else if w = 3 then vO (sV s) t else if w = 4 then plays (sV s) t else -1) else -1
def aFix (s : ST) (i w : Int) : Int := if (0 ≤ i ∧ i < vf (sV s)) ∧ (0 ≤ w ∧ w ≤ 1) then (if w = 0 then vA (sV s) i else vB (sV s) i) else -1
def aGame (s : ST) (a b : Int) : Int := if pairB (sV s) a b then weaker (sV s) a b else -1
def altM (w : Int) : Int := if w = 0 then 3 else if w = 1 then 20 else 99
def altOK (s : ST) (t w x : Int) : Prop := (0 ≤ t ∧ t < vn (sV s)) ∧ (0 ≤ w ∧ w ≤ 3) ∧ (0 ≤ x ∧ x ≤ altM w)
def aAlter (s : ST) (t w x : Int) : Int := if (0 ≤ t ∧ t < vn (sV s)) ∧ (0 ≤ w ∧ w ≤ 3) ∧ (0 ≤ x ∧ x ≤ altM w) then (if w = 0 then vK (sV s) t else if w = 1 then vS (sV s) t else if w = 2 then vL (sV s) t else vO (sV s) t) else -1
def altV (v : LV) (t w x : Int) : LV := if w = 0 then setK v (fu (vK v) t x) else if w = 1 then setS v (fu (vS v) t x) else if w = 2 then setL v (fu (vL v) t x) else setO v (fu (vO v) t x)
def nAlter (s : ST) (t w x : Int) : ST := if (0 ≤ t ∧ t < vn (sV s)) ∧ (0 ≤ w ∧ w ≤ 3) ∧ (0 ≤ x ∧ x ≤ altM w) then uV s (altV (sV s) t w x) else s
def aLend (s : ST) (a b n : Int) : Int := if pairB (sV s) a b = true ∧ (0 ≤ n ∧ n ≤ 20) then lendR (sV s) a b n else -1
def nLend (s : ST) (a b n : Int) : ST := if pairB (sV s) a b = true ∧ (0 ≤ n ∧ n ≤ 20) then uV s (lendV (sV s) a b n) else s
def aStrike (s : ST) (n : Int) : Int := if 0 ≤ n ∧ n ≤ vf (sV s) then vf (sV s) else -1
def nStrike (s : ST) (n : Int) : ST := if 0 ≤ n ∧ n ≤ vf (sV s) then uV s (setF (sV s) n) else s
def aWeeks (s : ST) (n : Int) : Int := if 0 ≤ n ∧ n ≤ 30 then (if 1000 ≤ vw (sV s) + n then -3 else goL (sV s) n.toNat) else -1
def nWeeks (s : ST) (n : Int) : ST := if 0 ≤ n ∧ n ≤ 30 then (if 1000 ≤ vw (sV s) + n then s else uV s (goV (sV s) n.toNat)) else s
def aRuns (s : ST) (n w : Int) : Int := if (0 ≤ n ∧ n ≤ 60) ∧ (0 ≤ w ∧ w ≤ 3) then (if w = 0 then goL (sV s) n.toNat else if w = 1 then (if vf (sV s) = 0 then 0 else n - goL (sV s) n.toNat) else if w = 2 then owed (goV (sV s) n.toNat) else (lossB (goV (sV s) n.toNat) : Int)) else -1
def aAhead (s : ST) (t n w : Int) : Int := if (0 ≤ t ∧ t < vn (sV s)) ∧ (0 ≤ n ∧ n ≤ 60) ∧ (0 ≤ w ∧ w ≤ 2) then (if w = 0 then vS (goV (sV s) n.toNat) t else if w = 1 then vL (goV (sV s) n.toNat) t else vO (goV (sV s) n.toNat) t) else -1
def aLoser (s : ST) (n : Int) : Int := if 0 ≤ n ∧ n ≤ 60 then wkL (goV (sV s) n.toNat) 0 else -1
def aLoses (s : ST) (t : Int) : Int := if 0 ≤ t ∧ t < vn (sV s) then flN (sV s) t 61 else -1
theorem lossB_bd {v : LV} (h : WF v) : lossB v < 32 := by
  have h1 := bitN_lt (fun t => decide (0 < vL v t)) (vn v).toNat
  have h2 := h.1
  have h3 : 2 ^ (vn v).toNat ≤ 2 ^ 5 := Nat.pow_le_pow_right (by omega) (by omega)
  unfold lossB
  omega
