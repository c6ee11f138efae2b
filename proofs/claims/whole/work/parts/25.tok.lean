/-! ===== the text: tokens, lines ===== -/
theorem x_cv {g : GG} {T : XT} {K : XK} {pc : Nat} {L : List (Option Value)} {st : List Value} {hp : Hp} {Q : Option Value → Hp → Prop} {x z : Int} (h : Int32.ofInt z = Int32.ofInt x) (k : X g T K pc L (iv z :: st) hp Q) : X g T K pc L (iv x :: st) hp Q := by
  have : iv x = iv z := by unfold iv; rw [h]
  rw [this]; exact k
def scanF (c : Int → Bool) (b : Int → Int) (n : Int) : Nat → Int → Int
  | 0, p => p
  | f + 1, p => if p < n ∧ c (b p) = true then scanF c b n f (p + 1) else p
def scan (c : Int → Bool) (b : Int → Int) (n p : Int) : Int := scanF c b n (n - p).toNat p
theorem scan_go {c : Int → Bool} {b : Int → Int} {n p : Int} (h : p < n) (hc : c (b p) = true) : scan c b n p = scan c b n (p + 1) := by
  unfold scan
  rw [show (n - p).toNat = (n - (p + 1)).toNat + 1 by omega]
  show (if p < n ∧ c (b p) = true then _ else _) = _
  rw [if_pos ⟨h, hc⟩]
theorem scan_no {c : Int → Bool} {b : Int → Int} {n p : Int} (h : ¬ (p < n ∧ c (b p) = true)) : scan c b n p = p := by
  unfold scan
  cases (n - p).toNat with
  | zero => rfl
  | succ f =>
    show (if p < n ∧ c (b p) = true then _ else _) = _
    rw [if_neg h]
theorem scanF_le (c : Int → Bool) (b : Int → Int) (n : Int) : ∀ (f : Nat) (p : Int), p ≤ n → p ≤ scanF c b n f p ∧ scanF c b n f p ≤ n
  | 0, p, h => ⟨Int.le_refl _, h⟩
  | f + 1, p, h => by
    show p ≤ (if p < n ∧ c (b p) = true then scanF c b n f (p + 1) else p) ∧ (if p < n ∧ c (b p) = true then scanF c b n f (p + 1) else p) ≤ n
    split
    · have := scanF_le c b n f (p + 1) (by omega)
      omega
    · omega
theorem scan_le {c : Int → Bool} {b : Int → Int} {n p : Int} (h : p ≤ n) : p ≤ scan c b n p ∧ scan c b n p ≤ n := scanF_le c b n _ p h
def isBk (x : Int) : Bool := decide (x = 32)
def isLt (x : Int) : Bool := decide (97 ≤ x ∧ x ≤ 122)
def isFg (x : Int) : Bool := decide (48 ≤ x ∧ x ≤ 57)
def tkS (b : Int → Int) (n p : Int) : Int := scan isBk b n p
def tkK (b : Int → Int) (n p : Int) : Int := if n ≤ tkS b n p then 0 else if isLt (b (tkS b n p)) then 1 else if isFg (b (tkS b n p)) then 2 else 3
def tkE (b : Int → Int) (n p : Int) : Int := if n ≤ tkS b n p then tkS b n p else if isLt (b (tkS b n p)) then scan isLt b n (tkS b n p) else if isFg (b (tkS b n p)) then scan isFg b n (tkS b n p) else tkS b n p + 1
/-- the first two figures -/
def numP (b : Int → Int) (s q : Int) : Int := if q = s then 0 else if q = s + 1 then b s - 48 else (b s - 48) * 10 + (b (s + 1) - 48)
def tkV (b : Int → Int) (n p : Int) : Int := if tkK b n p = 2 then numP b (tkS b n p) (tkE b n p) else 0
def tkB (b : Int → Int) (n p : Int) : Prop := (tkK b n p = 2 ∧ 2 < tkE b n p - tkS b n p) ∨ (tkK b n p = 3 ∧ b (tkS b n p) ≠ 59)
theorem tkS_le {b : Int → Int} {n p : Int} (h : p ≤ n) : p ≤ tkS b n p ∧ tkS b n p ≤ n := scan_le h
theorem tkE_le {b : Int → Int} {n p : Int} (h : p ≤ n) : tkS b n p ≤ tkE b n p ∧ tkE b n p ≤ n := by
  have h1 := tkS_le (b := b) h
  have h2 := scan_le (c := isLt) (b := b) h1.2
  have h3 := scan_le (c := isFg) (b := b) h1.2
  unfold tkE
  repeat' split
  all_goals omega
def spB (b : Int → Int) (s e : Int) (i : Nat) : Bool := decide (e - s = ((xlen.getD i 0 : Nat) : Int)) && !anyN (fun j => decide (b (s + (j : Int)) ≠ xch i (j : Int))) (xlen.getD i 0)
def wordN (b : Int → Int) (s e : Int) : Int := if spB b s e 0 then 0 else if spB b s e 1 then 1 else if spB b s e 2 then 2 else if spB b s e 3 then 3 else if spB b s e 4 then 4 else -1
def tkBb (b : Int → Int) (n p : Int) : Bool := decide ((tkK b n p = 2 ∧ 2 < tkE b n p - tkS b n p) ∨ (tkK b n p = 3 ∧ b (tkS b n p) ≠ 59))
theorem tkBb_t {b : Int → Int} {n p : Int} : tkBb b n p = true ↔ tkB b n p := by unfold tkBb tkB; exact decide_eq_true_iff
/-- a number that is asked for, at most m; the sign: 0, or the fault -/
def numO (b : Int → Int) (n p m : Int) : Int := if tkBb b n p then 1 else if tkK b n p ≠ 2 then 2 else if m < tkV b n p then 3 else 0
def sgnO (b : Int → Int) (n p : Int) : Int := if tkBb b n p then 1 else if tkK b n p ≠ 3 then 2 else 0
/-- what a line comes to: fault, its place, where it ends, the league -/
abbrev PR : Type := Int × Int × Int × LV
def lnT (b : Int → Int) (n : Int) (d : LV) (w s0 p : Int) : PR :=
  if 5 ≤ vn d then (5, s0, 0, d) else if numO b n p 20 ≠ 0 then (numO b n p 20, tkS b n p, 0, d) else if sgnO b n (tkE b n p) ≠ 0 then (sgnO b n (tkE b n p), tkS b n (tkE b n p), 0, d) else (0, 0, tkE b n (tkE b n p), addT d w (tkV b n p))
def lnG (b : Int → Int) (n : Int) (d : LV) (s0 p : Int) : PR :=
  if 10 ≤ vf d then (5, s0, 0, d) else if numO b n p 4 ≠ 0 then (numO b n p 4, tkS b n p, 0, d) else if numO b n (tkE b n p) 4 ≠ 0 then (numO b n (tkE b n p) 4, tkS b n (tkE b n p), 0, d) else if tkV b n p = tkV b n (tkE b n p) then (3, tkS b n (tkE b n p), 0, d) else if sgnO b n (tkE b n (tkE b n p)) ≠ 0 then (sgnO b n (tkE b n (tkE b n p)), tkS b n (tkE b n (tkE b n p)), 0, d) else (0, 0, tkE b n (tkE b n (tkE b n p)), addF d (tkV b n p) (tkV b n (tkE b n p)))
def lnW (b : Int → Int) (n p : Int) : Int := if tkK b n p = 1 then wordN b (tkS b n p) (tkE b n p) else -1
def lnP (b : Int → Int) (n : Int) (d : LV) (p : Int) : PR := if lnW b n p = -1 then (2, tkS b n p, 0, d) else if lnW b n p = 4 then lnG b n d (tkS b n p) (tkE b n p) else lnT b n d (lnW b n p) (tkS b n p) (tkE b n p)
def prs (b : Int → Int) (n : Int) : Nat → Int → LV → Int → PR
  | 0, _, d, k => (0, 0, k, d)
  | f + 1, p, d, k => if tkBb b n p then (1, tkS b n p, k, d) else if tkK b n p = 0 then (if lackB d then (6, tkS b n p, k, d) else (0, 0, k, d)) else if (lnP b n d p).1 ≠ 0 then ((lnP b n d p).1, (lnP b n d p).2.1, k, d) else prs b n f (lnP b n d p).2.2.1 (lnP b n d p).2.2.2 (k + 1)
def LV0 : LV := (0, 0, 0, fun _ => 0, fun _ => 0, fun _ => 0, fun _ => 0, fun _ => 0, fun _ => 0)
theorem wordN_in (b : Int → Int) (s e : Int) : wordN b s e = -1 ∨ (0 ≤ wordN b s e ∧ wordN b s e ≤ 4) := by
  unfold wordN
  repeat' split
  all_goals omega
theorem lnW_in (b : Int → Int) (n p : Int) : lnW b n p = -1 ∨ (0 ≤ lnW b n p ∧ lnW b n p ≤ 4) := by
  unfold lnW
  split
  · exact wordN_in _ _ _
  · exact Or.inl rfl
theorem isFg_b {x : Int} (h : isFg x = true) : 48 ≤ x ∧ x ≤ 57 := by unfold isFg at h; exact of_decide_eq_true h
theorem isLt_b {x : Int} (h : isLt x = true) : 97 ≤ x ∧ x ≤ 122 := by unfold isLt at h; exact of_decide_eq_true h
theorem isFg_n {x : Int} (h : ¬ isFg x = true) : ¬ (48 ≤ x ∧ x ≤ 57) := fun q => h (by unfold isFg; exact decide_eq_true q)
theorem isLt_n {x : Int} (h : ¬ isLt x = true) : ¬ (97 ≤ x ∧ x ≤ 122) := fun q => h (by unfold isLt; exact decide_eq_true q)
/-- all that is passed is of the kind -/
theorem scanF_all (c : Int → Bool) (b : Int → Int) (n : Int) : ∀ (f : Nat) (p q : Int), p ≤ q → q < scanF c b n f p → q < n ∧ c (b q) = true
  | 0, p, q, h1, h2 => by have h2 : q < p := h2; omega
  | f + 1, p, q, h1, h2 => by
    have h2 : q < (if p < n ∧ c (b p) = true then scanF c b n f (p + 1) else p) := h2
    split at h2
    · next h =>
      by_cases e : q = p
      · subst e; exact h
      · exact scanF_all c b n f (p + 1) q (by omega) h2
    · omega
theorem scan_all {c : Int → Bool} {b : Int → Int} {n p q : Int} (h1 : p ≤ q) (h2 : q < scan c b n p) : q < n ∧ c (b q) = true := scanF_all c b n _ p q h1 h2
theorem tkV_bd {b : Int → Int} {n p : Int} (hp : p ≤ n) (hB : tkBb b n p = false) : 0 ≤ tkV b n p ∧ tkV b n p ≤ 99 := by
  unfold tkV
  split
  · next hk =>
    have hS := tkS_le (b := b) hp
    have hs : ¬ n ≤ tkS b n p ∧ ¬ isLt (b (tkS b n p)) = true ∧ isFg (b (tkS b n p)) = true := by
      unfold tkK at hk
      repeat' split at hk
      all_goals first | omega | (refine ⟨by assumption, by assumption, by assumption⟩)
    have he : tkE b n p = scan isFg b n (tkS b n p) := by
      unfold tkE
      rw [if_neg hs.1, if_neg hs.2.1, if_pos hs.2.2]
    have hE := tkE_le (b := b) hp
    have hb : ¬ 2 < tkE b n p - tkS b n p := by
      intro q
      have : tkBb b n p = true := tkBb_t.mpr (Or.inl ⟨hk, q⟩)
      rw [hB] at this; cases this
    have d0 := isFg_b hs.2.2
    unfold numP
    split
    · omega
    · split
      · omega
      · have := (scan_all (c := isFg) (b := b) (n := n) (p := tkS b n p) (q := tkS b n p + 1) (by omega) (by rw [← he]; omega)).2
        have d1 := isFg_b this
        omega
  · omega
