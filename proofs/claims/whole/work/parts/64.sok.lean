/-! ===== what holds of a state holds of the next ===== -/
theorem sok_V {s : ST} {v : LV} (h : SOK s) (hW : WF v) (hw : vw v ≤ 999) (hn : vn v = vn (sV s)) : SOK (uV s v) := by
  obtain ⟨h1, h2, h3, h4, h5, h6, h7, h8, h9⟩ := h
  refine ⟨hW, hw, ⟨h3.1, fun q => ?_⟩, ⟨h4.1, fun q => ?_⟩, h5, h6, h7, h8, h9⟩
  · have z := h3.2 q
    exact ⟨z.1, z.2.1, z.2.2.trans hn.symm⟩
  · have z := h4.2 q
    exact ⟨z.1, z.2.1, z.2.2.trans hn.symm⟩
theorem sok_T {s : ST} {n : Int} {b : Int → Int} (h : SOK s) (hn : 0 ≤ n ∧ n ≤ 160) (hb : ∀ i, 0 ≤ i → i < n → 0 ≤ b i ∧ b i ≤ 127) : SOK (uT s n b) := by
  obtain ⟨h1, h2, h3, h4, h5, h6, h7, h8, h9⟩ := h
  exact ⟨h1, h2, h3, h4, hn, hb, h7, h8, h9⟩
theorem sok_S {s : ST} {n : Int} {w l : Int → Int} (h : SOK s) (hn : 0 ≤ n ∧ n ≤ 6) (hb : ∀ i, 0 ≤ i → i < n → (0 ≤ w i ∧ w i ≤ 20) ∧ (0 ≤ l i ∧ l i ≤ 9)) : SOK (uS s n w l) := by
  obtain ⟨h1, h2, h3, h4, h5, h6, h7, h8, h9⟩ := h
  exact ⟨h1, h2, h3, h4, h5, h6, hn, hb, h9⟩
theorem sok_K {s : ST} {a b : Int} {x y : LV} (h : SOK s) (ha : ImgOK (sV s) a x) (hb : ImgOK (sV s) b y) : SOK (uK s a b x y) := by
  obtain ⟨h1, h2, h3, h4, h5, h6, h7, h8, h9⟩ := h
  exact ⟨h1, h2, ha, hb, h5, h6, h7, h8, h9⟩
theorem sok_Z {s : ST} {a b : Nat → Int} {c : Nat → Int → Int} (h : SOK s) (hz : ∀ k, k < 4 → (-1 ≤ a k ∧ a k ≤ 40) ∧ (a k ≠ -1 → 0 ≤ b k ∧ b k ≤ 2) ∧ ∀ i, 0 ≤ i → i < a k → -2147483648 ≤ c k i ∧ c k i ≤ 2147483647) : SOK (uZ s a b c) := by
  obtain ⟨h1, h2, h3, h4, h5, h6, h7, h8, h9⟩ := h
  exact ⟨h1, h2, h3, h4, h5, h6, h7, h8, hz⟩
theorem sok_F {s : ST} {x : Int} (h : SOK s) : SOK (uF s x) := by
  obtain ⟨h1, h2, h3, h4, h5, h6, h7, h8, h9⟩ := h
  exact ⟨h1, h2, h3, h4, h5, h6, h7, h8, h9⟩
theorem sok_N {s : ST} {x : Int} (h : SOK s) : SOK (uN s x) := by
  obtain ⟨h1, h2, h3, h4, h5, h6, h7, h8, h9⟩ := h
  exact ⟨h1, h2, h3, h4, h5, h6, h7, h8, h9⟩
theorem sok_feed {s : ST} (h : SOK s) (c : Int) : SOK (nFeed s c) := by
  have h5 := h.2.2.2.2.1
  have h6 := h.2.2.2.2.2.1
  unfold nFeed
  split
  · split
    · refine sok_T h (by omega) (fun i a b => ?_)
      unfold fu
      split
      · omega
      · exact h6 i a (by omega)
    · exact h
  · exact h
theorem sok_end {s : ST} (h : SOK s) (n : Int) : SOK (nEnd s n) := by
  have h5 := h.2.2.2.2.1
  have h6 := h.2.2.2.2.2.1
  unfold nEnd
  split
  · exact sok_T h (by omega) (fun i a b => h6 i a (by omega))
  · exact h
theorem sok_text {s : ST} (h : SOK s) : SOK (nText s) := by
  have h5 := h.2.2.2.2.1
  unfold nText
  split
  · next hz =>
    obtain ⟨hw, hv⟩ := txt_WF h hz
    have hI : ∀ x : LV, ImgOK (txt s).2.2.2 0 x := fun x => ⟨Or.inl rfl, fun q => by omega⟩
    obtain ⟨h1, h2, h3, h4, h5, h6, h7, h8, h9⟩ := h
    refine ⟨hw, ?_, hI _, hI _, ⟨by show (0 : Int) ≤ 0; omega, by show (0 : Int) ≤ 160; omega⟩, fun i a b => ?_, ⟨by show (0 : Int) ≤ 0; omega, by show (0 : Int) ≤ 6; omega⟩, fun i a b => ?_, h9⟩
    · show vw (txt s).2.2.2 ≤ 999
      omega
    · have b : i < 0 := b
      omega
    · have b : i < 0 := b
      omega
  · exact sok_F (sok_T h (by omega) (fun i a b => by omega))
theorem vw_altV (v : LV) (t w x : Int) : vw (altV v t w x) = vw v ∧ vn (altV v t w x) = vn v := by
  unfold altV
  repeat' split
  all_goals exact ⟨rfl, rfl⟩
theorem sok_alter {s : ST} (h : SOK s) (t w x : Int) : SOK (nAlter s t w x) := by
  unfold nAlter
  split
  · next hok =>
    have e := vw_altV (sV s) t w x
    refine sok_V h ?_ (by rw [e.1]; exact h.2.1) e.2
    obtain ⟨-, hw, hx⟩ := hok
    unfold altM at hx
    unfold altV
    by_cases h0 : w = 0
    · rw [if_pos h0] at hx ⊢
      exact setK_WF h.1 t x hx
    · rw [if_neg h0] at hx ⊢
      by_cases h1 : w = 1
      · rw [if_pos h1] at hx ⊢
        exact setS_WF h.1 t x hx
      · rw [if_neg h1] at hx ⊢
        split
        · exact setL_WF h.1 t x hx
        · exact setO_WF h.1 t x hx
  · exact h
theorem vn_lendV (v : LV) (a b n : Int) : vn (lendV v a b n) = vn v := by
  unfold lendV
  repeat' split
  all_goals rfl
theorem sok_lend {s : ST} (h : SOK s) (a b n : Int) : SOK (nLend s a b n) := by
  unfold nLend
  split
  · next hok =>
    obtain ⟨hp, hn⟩ := hok
    have hp := of_decide_eq_true hp
    exact sok_V h (lendV_WF h.1 hp.1 hp.2.1 hn.1) (by rw [vw_lendV]; exact h.2.1) (vn_lendV _ _ _ _)
  · exact h
theorem bookV_WF {v : LV} (h : WF v) (a b : Int) : WF (bookV v a b) ∧ vw (bookV v a b) = vw v ∧ vn (bookV v a b) = vn v := by
  unfold bookV
  split
  · next hp =>
    have hp := of_decide_eq_true hp
    unfold addV
    split
    · exact ⟨h, rfl, rfl⟩
    · next hf =>
      obtain ⟨h1, h2, h3, h4, h5⟩ := h
      refine ⟨⟨h1, ?_, h3, h4, fun i x y => ?_⟩, rfl, rfl⟩
      · show 0 ≤ vf v + 1 ∧ vf v + 1 ≤ 10
        omega
      · have y : i < vf v + 1 := y
        show (0 ≤ fu (vA v) (vf v) a i ∧ fu (vA v) (vf v) a i < vn v) ∧ (0 ≤ fu (vB v) (vf v) b i ∧ fu (vB v) (vf v) b i < vn v) ∧ fu (vA v) (vf v) a i ≠ fu (vB v) (vf v) b i
        unfold fu
        by_cases e : i = vf v
        · rw [if_pos e, if_pos e]; exact hp
        · rw [if_neg e, if_neg e]; exact h5 i x (by omega)
  · exact ⟨h, rfl, rfl⟩
theorem sok_book {s : ST} (h : SOK s) (a b : Int) : SOK (nBook s a b) := by
  have e := bookV_WF h.1 a b
  exact sok_V h e.1 (by rw [e.2.1]; exact h.2.1) e.2.2
theorem sok_strike {s : ST} (h : SOK s) (n : Int) : SOK (nStrike s n) := by
  unfold nStrike
  split
  · next hn =>
    obtain ⟨h1, h2, h3, h4, h5⟩ := h.1
    refine sok_V h ⟨h1, ?_, h3, h4, fun i x y => ?_⟩ h.2.1 rfl
    · show 0 ≤ n ∧ n ≤ 10
      omega
    · have y : i < n := y
      exact h5 i x (by omega)
  · exact h
theorem sok_weeks {s : ST} (h : SOK s) (n : Int) : SOK (nWeeks s n) := by
  unfold nWeeks
  split
  · split
    · exact h
    · have e := goV_w (sV s) n.toNat
      exact sok_V h (goV_WF h.1 _) (by omega) (goV_n _ _)
  · exact h
theorem sok_see {s : ST} (h : SOK s) (n t : Int) : SOK (nSee s n t) := by
  have h7 := h.2.2.2.2.2.2.1
  have h8 := h.2.2.2.2.2.2.2.1
  have h1 := h.1.1
  unfold nSee
  split
  · split
    · refine sok_S h (by omega) (fun i a b => ?_)
      unfold fu
      by_cases e : i = sc s
      · rw [if_pos e, if_pos e]; omega
      · rw [if_neg e, if_neg e]; exact h8 i a (by omega)
    · exact h
  · exact h
theorem sok_forget {s : ST} (h : SOK s) (n : Int) : SOK (nForget s n) := by
  have h7 := h.2.2.2.2.2.2.1
  have h8 := h.2.2.2.2.2.2.2.1
  unfold nForget
  split
  · exact sok_S h (by omega) (fun i a b => h8 i a (by omega))
  · exact h
theorem sok_keep {s : ST} (h : SOK s) (k : Int) : SOK (nKeep s k) := by
  have hme : ImgOK (sV s) 1 (sV s) := ⟨Or.inr rfl, fun _ => ⟨h.1, h.2.1, rfl⟩⟩
  unfold nKeep
  split
  · exact sok_K h hme h.2.2.2.1
  · split
    · exact sok_K h h.2.2.1 hme
    · exact h
theorem sok_back {s : ST} (h : SOK s) (k : Int) : SOK (nBack s k) := by
  unfold nBack
  split
  · split
    · next q =>
      have z := h.2.2.1.2 q
      exact sok_V h z.1 z.2.1 z.2.2
    · exact h
  · split
    · split
      · next q =>
        have z := h.2.2.2.1.2 q
        exact sok_V h z.1 z.2.1 z.2.2
      · exact h
    · exact h
theorem sok_sheet {s : ST} (h : SOK s) (k l n : Int) : SOK (nSheet s k l n) := by
  have h9 := h.2.2.2.2.2.2.2.2
  unfold nSheet
  split
  · split
    · exact h
    · refine sok_Z h (fun j hj => ?_)
      unfold up1
      by_cases e : j = k.toNat
      · rw [if_pos e, if_pos e, if_pos e]
        exact ⟨by omega, fun _ => by omega, fun i _ _ => by omega⟩
      · rw [if_neg e, if_neg e, if_neg e]; exact h9 j hj
  · exact h
theorem nrw_rng {l v : Int} (hv : -2147483648 ≤ v ∧ v ≤ 2147483647) : -2147483648 ≤ nrw l v ∧ nrw l v ≤ 2147483647 := by
  unfold nrw
  split
  · exact i32_rng _
  · split
    · exact i32_rng _
    · exact hv
theorem sok_lay {s : ST} (h : SOK s) (k i v : Int) (hv : -2147483648 ≤ v ∧ v ≤ 2147483647) : SOK (nLay s k i v) := by
  have h9 := h.2.2.2.2.2.2.2.2
  unfold nLay
  split
  · refine sok_Z h (fun j hj => ?_)
    obtain ⟨a1, a2, a3⟩ := h9 j hj
    refine ⟨a1, a2, fun q x y => ?_⟩
    unfold up1
    by_cases e : j = k.toNat
    · subst e
      rw [if_pos rfl]
      unfold fu
      split
      · exact nrw_rng hv
      · exact a3 q x y
    · rw [if_neg e]; exact a3 q x y
  · exact h
theorem rdG_WF {z l : Int} {c : Int → Int} {ln f : Int} {v0 : LV} (h0 : WF v0) (hw0 : vw v0 ≤ 999) : ∀ (k i : Nat) (v : LV), WF v → vw v ≤ 999 → vn v = vn v0 → WF (rdG z l c ln f v0 k i v).2.2 ∧ vw (rdG z l c ln f v0 k i v).2.2 ≤ 999 ∧ vn (rdG z l c ln f v0 k i v).2.2 = vn v0
  | 0, i, v, h, hw, hn => ⟨h, hw, hn⟩
  | k + 1, i, v, h, hw, hn => by
    rw [rdG_s]
    split
    · exact ⟨h, hw, hn⟩
    · split
      · exact ⟨h0, hw0, rfl⟩
      · have e := bookV_WF h (c (f + 2 * (i : Int))) (c (f + 2 * (i : Int) + 1))
        exact rdG_WF h0 hw0 k (i + 1) _ e.1 (by rw [e.2.1]; exact hw) (e.2.2.trans hn)
theorem sok_read {s : ST} (h : SOK s) (k ln f n : Int) : SOK (nRead s k ln f n) := by
  unfold nRead
  split
  · split
    · exact h
    · have e := rdG_WF (z := zz s k.toNat) (l := zl s k.toNat) (c := zc s k.toNat) (ln := ln) (f := f) h.1 h.2.1 n.toNat 0 (sV s) h.1 h.2.1 rfl
      exact sok_N (sok_V h e.1 e.2.1 e.2.2)
  · exact h
