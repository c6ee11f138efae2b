/-- the draft, the highest town told of -/
def RD (M : Mem) (d : LV) : Prop := M 50 3 = vn d ∧ M 52 40 = vf d ∧ (∀ t, 0 ≤ t → t < vn d → M 52 t = vK d t ∧ M 52 (5 + t) = vS d t) ∧ (∀ i, 0 ≤ i → i < vf d → M 52 (20 + i) = vA d i ∧ M 52 (30 + i) = vB d i) ∧ (∀ z, 10 ≤ z → z < 20 → M 52 z = 0) ∧ M 52 41 = 0
def TT (M : Mem) (d : LV) : Prop := (-1 ≤ M 50 4 ∧ M 50 4 ≤ 4) ∧ (∀ i, 0 ≤ i → i < vf d → vA d i ≤ M 50 4 ∧ vB d i ≤ M 50 4) ∧ (M 50 4 = -1 ∨ ∃ i, 0 ≤ i ∧ i < vf d ∧ (vA d i = M 50 4 ∨ vB d i = M 50 4))
def FD (M M2 : Mem) : Prop := (∀ a, a ≠ 50 → a ≠ 52 → M2 a = M a) ∧ (∀ k, (k < 3 ∨ (4 < k ∧ k < 8) ∨ 13 < k) → M2 50 k = M 50 k)
theorem FD.tr {M M2 M3 : Mem} (h : FD M M2) (h2 : FD M2 M3) : FD M M3 := ⟨fun a x y => (h2.1 a x y).trans (h.1 a x y), fun k x => (h2.2 k x).trans (h.2 k x)⟩
theorem FD.fs {M M2 : Mem} (h : FS M M2) : FD M M2 := ⟨fun a x _ => h.1 a x, fun k hk => h.2 k (by omega)⟩
theorem FD.rf (M : Mem) : FD M M := ⟨fun _ _ _ => rfl, fun _ _ => rfl⟩
theorem FD.up {M M2 : Mem} (h : FD M M2) (x y : Int) : FD M (up2 M2 52 x y) :=
  ⟨fun a h1 h2 => by rw [up2_o _ _ _ h2]; exact h.1 a h1 h2, fun k hk => by rw [up2_o _ _ _ (by omega)]; exact h.2 k hk⟩
theorem FD.up0 {M M2 : Mem} (h : FD M M2) (x y : Int) (hx : (3 ≤ x ∧ x ≤ 4) ∨ (8 ≤ x ∧ x ≤ 13)) : FD M (up2 M2 50 x y) :=
  ⟨fun a h1 h2 => by rw [up2_o _ _ _ h1]; exact h.1 a h1 h2, fun k hk => by rw [up2_k _ _ _ (show k ≠ x by omega)]; exact h.2 k hk⟩
theorem FD.sm {M M2 : Mem} (h : FD M M2) : SM M M2 := ⟨fun a h1 _ h3 _ _ => h.1 a h1 h3, fun k hk => h.2 k (by omega), fun k _ => by rw [h.1 51 (by omega) (by omega)]⟩
theorem TQ.fl {M M2 : Mem} {n : Int} {b : Int → Int} (h : TQ M n b) (e : FD M M2) : TQ M2 n b := h.keep (e.2 6 (by omega)) (fun a ha => e.1 a (by omega) (by omega))
theorem RD.keep {M M2 : Mem} {d : LV} (h : RD M d) (h1 : M2 50 3 = M 50 3) (h2 : M2 52 = M 52) : RD M2 d := by unfold RD; rw [h1, h2]; exact h
theorem TT.keep {M M2 : Mem} {d : LV} (h : TT M d) (h1 : M2 50 4 = M 50 4) : TT M2 d := by unfold TT; rw [h1]; exact h
theorem RD_addT {M M2 : Mem} {d : LV} {w r : Int} (h : RD M d) (hn : 0 ≤ vn d ∧ vn d < 5) (hf : vf d ≤ 10) (h3 : M2 50 3 = vn d + 1) (h2 : ∀ z, M2 52 z = if z = 5 + vn d then r else if z = vn d then w else M 52 z) : RD M2 (addT d w r) := by
  obtain ⟨a1, a2, a3, a4, a5, a6⟩ := h
  have o : ∀ z, z ≠ 5 + vn d → z ≠ vn d → M2 52 z = M 52 z := fun z e1 e2 => by rw [h2, if_neg e1, if_neg e2]
  refine ⟨h3, (o 40 (by omega) (by omega)).trans a2, fun t a b => ?_, fun i a b => ?_, fun z a b => ?_, (o 41 (by omega) (by omega)).trans a6⟩
  · have b : t < vn d + 1 := b
    show _ = fu (vK d) (vn d) w t ∧ _ = fu (vS d) (vn d) r t
    unfold fu
    by_cases e : t = vn d
    · subst e
      rw [if_pos rfl, if_pos rfl]
      exact ⟨by rw [h2, if_neg (by omega), if_pos rfl], by rw [h2, if_pos rfl]⟩
    · rw [if_neg e, if_neg e, o t (by omega) e, o (5 + t) (by omega) (by omega)]; exact a3 t a (by omega)
  · have b : i < vf d := b
    rw [o (20 + i) (by omega) (by omega), o (30 + i) (by omega) (by omega)]; exact a4 i a b
  · rw [o z (by omega) (by omega)]; exact a5 z a b
theorem RD_addF {M M2 : Mem} {d : LV} {x y : Int} (h : RD M d) (hn : vn d ≤ 5) (hf : 0 ≤ vf d ∧ vf d < 10) (h3 : M2 50 3 = M 50 3) (h2 : ∀ z, M2 52 z = if z = 40 then vf d + 1 else if z = 30 + vf d then y else if z = 20 + vf d then x else M 52 z) : RD M2 (addF d x y) := by
  obtain ⟨a1, a2, a3, a4, a5, a6⟩ := h
  have o : ∀ z, z ≠ 40 → z ≠ 30 + vf d → z ≠ 20 + vf d → M2 52 z = M 52 z := fun z e1 e2 e3 => by rw [h2, if_neg e1, if_neg e2, if_neg e3]
  refine ⟨h3.trans a1, by rw [h2, if_pos rfl]; rfl, fun t a b => ?_, fun i a b => ?_, fun z a b => ?_, (o 41 (by omega) (by omega) (by omega)).trans a6⟩
  · have b : t < vn d := b
    rw [o t (by omega) (by omega) (by omega), o (5 + t) (by omega) (by omega) (by omega)]; exact a3 t a b
  · have b : i < vf d + 1 := b
    show _ = fu (vA d) (vf d) x i ∧ _ = fu (vB d) (vf d) y i
    unfold fu
    by_cases e : i = vf d
    · subst e
      rw [if_pos rfl, if_pos rfl]
      exact ⟨by rw [h2, if_neg (by omega), if_neg (by omega), if_pos rfl], by rw [h2, if_neg (by omega), if_pos rfl]⟩
    · rw [if_neg e, if_neg e, o (20 + i) (by omega) (by omega) (by omega), o (30 + i) (by omega) (by omega) (by omega)]; exact a4 i a (by omega)
  · rw [o z (by omega) (by omega) (by omega)]; exact a5 z a b
theorem TT_addF {M M2 : Mem} {d : LV} {x y : Int} (h : TT M d) (hf : 0 ≤ vf d) (hx : 0 ≤ x ∧ x ≤ 4) (hy : 0 ≤ y ∧ y ≤ 4) (h4 : M2 50 4 = max y (max x (M 50 4))) : TT M2 (addF d x y) := by
  obtain ⟨a1, a2, a3_⟩ := h
  have a3 : True → (M 50 4 = -1 ∨ ∃ i, 0 ≤ i ∧ i < vf d ∧ (vA d i = M 50 4 ∨ vB d i = M 50 4)) := fun _ => a3_
  clear a3_
  refine ⟨by omega, fun i a b => ?_, Or.inr ?_⟩
  · have b : i < vf d + 1 := b
    show fu (vA d) (vf d) x i ≤ _ ∧ fu (vB d) (vf d) y i ≤ _
    unfold fu
    by_cases e : i = vf d
    · rw [if_pos e, if_pos e]; omega
    · rw [if_neg e, if_neg e]
      have := a2 i a (by omega)
      omega
  · have hnew : ∀ z, (z = x ∨ z = y) → M2 50 4 = z → ∃ i, 0 ≤ i ∧ i < vf (addF d x y) ∧ (vA (addF d x y) i = M2 50 4 ∨ vB (addF d x y) i = M2 50 4) := fun z hz he => by
      refine ⟨vf d, hf, by show vf d < vf d + 1; omega, ?_⟩
      show fu (vA d) (vf d) x (vf d) = _ ∨ fu (vB d) (vf d) y (vf d) = _
      rw [fu_s, fu_s]; omega
    by_cases e1 : M2 50 4 = y
    · exact hnew y (Or.inr rfl) e1
    · by_cases e2 : M2 50 4 = x
      · exact hnew x (Or.inl rfl) e2
      · have e3 : M2 50 4 = M 50 4 := by omega
        rcases a3 trivial with q | ⟨i, q1, q2, q3⟩
        · omega
        · refine ⟨i, q1, by show i < vf d + 1; omega, ?_⟩
          show fu (vA d) (vf d) x i = _ ∨ fu (vB d) (vf d) y i = _
          rw [fu_n _ _ (show i ≠ vf d by omega), fu_n _ _ (show i ≠ vf d by omega), e3]; exact q3
theorem lack_top {M : Mem} {d : LV} {k : Int} (h : TT M d) (hD : DI d k) : (lackB d = true) ↔ vn d ≤ M 50 4 := by
  obtain ⟨a1, a2, a3⟩ := h
  obtain ⟨d1, d2, d3, d4, d5, d6⟩ := hD
  have pb : ∀ i, 0 ≤ i → i < vf d → ((!pairB d (vA d i) (vB d i)) = true ↔ (vn d ≤ vA d i ∨ vn d ≤ vB d i)) := fun i x y => by
    have q := d6 i x y
    unfold pairB
    by_cases z : (0 ≤ vA d i ∧ vA d i < vn d) ∧ (0 ≤ vB d i ∧ vB d i < vn d) ∧ vA d i ≠ vB d i
    · rw [decide_eq_true z]
      constructor
      · intro w; exact absurd w (by decide)
      · intro w; omega
    · rw [decide_eq_false z]
      constructor
      · intro _; omega
      · intro _; rfl
  constructor
  · intro q
    by_cases z : vn d ≤ M 50 4
    · exact z
    · have : lackB d = false := anyN_f (fun j hj => by
        have w := a2 (j : Int) (by omega) (by omega)
        cases e : (!pairB d (vA d j) (vB d j)) with
        | false => rfl
        | true => have := (pb (j : Int) (by omega) (by omega)).mp e; omega)
      rw [this] at q; cases q
  · intro q
    rcases a3 with z | ⟨i, q1, q2, q3⟩
    · omega
    · obtain ⟨j, rfl⟩ := Int.eq_ofNat_of_zero_le q1
      exact anyN_t (k := j) (by omega) ((pb (j : Int) q1 q2).mpr (by omega))
def gmO (b : Int → Int) (n p : Int) : Int × Int := if numO b n p 4 ≠ 0 then (numO b n p 4, tkS b n p) else if numO b n (tkE b n p) 4 ≠ 0 then (numO b n (tkE b n p) 4, tkS b n (tkE b n p)) else if tkV b n p = tkV b n (tkE b n p) then (3, tkS b n (tkE b n p)) else (0, 0)
theorem tkK_b (b : Int → Int) (n p : Int) : 0 ≤ tkK b n p ∧ tkK b n p ≤ 3 := by
  unfold tkK
  repeat' split
  all_goals omega
theorem numO_b (b : Int → Int) (n p m : Int) : 0 ≤ numO b n p m ∧ numO b n p m ≤ 3 := by
  unfold numO
  repeat' split
  all_goals omega

set_option maxHeartbeats 4000000 in
theorem m_readTown {g : GG} {M : Mem} {n : Int} {b : Int → Int} {d : LV} (hT : TQ M n b) (p : Int) (hK : TKS b n p M) (hB : tkBb b n p = false) (hpn : 0 ≤ p ∧ p ≤ n) (hD : RD M d) (hTT : TT M d) (w : Int) (hw : 0 ≤ w ∧ w ≤ 3) (hn5 : 0 ≤ vn d ∧ vn d < 5) (hf10 : 0 ≤ vf d ∧ vf d ≤ 10) : CV g tX7_readMore 4 [rv g 50, iv w] M (fun M2 => FD M M2 ∧ (numO b n p 20 ≠ 0 → M2 50 8 = numO b n p 20 ∧ M2 50 9 = tkS b n p) ∧ (numO b n p 20 = 0 → TKS b n (tkE b n p) M2 ∧ RD M2 (addT d w (tkV b n p)) ∧ TT M2 (addT d w (tkV b n p)))) := by
  refine Con.of [some (rv g 50), some (iv w), none, none] (by decide +kernel) rfl (Nat.le_of_ble_eq_true rfl) ?_
  have d3 := hD.1
  have d40 := hD.2.1
  refine x_iload_n 1 1 dX7_readMore_0 rfl rfl (by decide) rfl ?_
  refine x_iconst 2 dX7_readMore_1 rfl ?_
  refine x_icmp_gt 44 5 dX7_readMore_2 (by decide) rfl (by omega) (fun h2 => ?_) (fun h2 => ?_)
  · exfalso; omega
  · refine x_aload_n 6 0 dX7_readMore_5 rfl rfl (by decide) rfl ?_
    refine x_getR 9 2 52 dX7_readMore_6 rfl fX7_13 rfl rfl rfl ?_
    refine x_aload_n 10 0 dX7_readMore_9 rfl rfl (by decide) rfl ?_
    refine x_getI 13 3 3 rfl dX7_readMore_10 rfl fX7_104 rfl rfl (fun g10 => ?_)
    rw [d3]
    refine x_iload_n 14 1 dX7_readMore_13 rfl rfl (by decide) rfl ?_
    refine x_iastore 15 dX7_readMore_14 rfl rfl (by omega) (by omega) ?_
    refine x_aload_n 16 0 dX7_readMore_15 rfl rfl (by decide) rfl ?_
    refine x_getR 19 2 52 dX7_readMore_16 rfl fX7_13 rfl rfl rfl ?_
    refine x_iconst 20 dX7_readMore_19 rfl ?_
    refine x_aload_n 21 0 dX7_readMore_20 rfl rfl (by decide) rfl ?_
    refine x_getI 24 3 3 rfl dX7_readMore_21 rfl fX7_104 rfl rfl (fun g21 => ?_)
    rw [up2_o _ _ _ (by omega), d3]
    refine x_iadd 25 dX7_readMore_24 rfl ?_
    refine x_aload_n 26 0 dX7_readMore_25 rfl rfl (by decide) rfl ?_
    refine x_iconst 27 dX7_readMore_26 rfl ?_
    refine x_bipush 29 dX7_readMore_27 rfl (by decide) ?_
    refine x_vi 32 [_, _] (m_number (hT.keep (M2 := up2 M 52 (vn d) w) (by rw [up2_o _ _ _ (by omega)]) (fun a ha => up2_o _ _ _ (by omega))) p (hK.keep (fun k _ _ => by rw [up2_o _ _ _ (by omega)])) hB hpn 20 (by omega)) mX7_number kX7_97 dX7_readMore_29 rfl rfl ⟨by decide, rfl⟩ rfl rfl (Nat.le_of_ble_eq_true rfl) (by decide) (fun r1 M1 q1 => ?_)
    obtain ⟨hF1, qa, qb⟩ := q1
    have hvb := tkV_bd hpn.2 hB
    have rb : 0 ≤ r1 ∧ r1 ≤ 99 := by
      by_cases z : numO b n p 20 = 0
      · rw [(qb z).1]; exact hvb
      · rw [(qa z).1]; omega
    have f3 : M1 50 3 = vn d := (hF1.2 3 (by omega)).trans (by rw [up2_o _ _ _ (by omega)]; exact d3)
    have f4 : M1 50 4 = M 50 4 := (hF1.2 4 (by omega)).trans (by rw [up2_o _ _ _ (by omega)])
    have f52 : M1 52 = up2 M 52 (vn d) w 52 := hF1.1 52 (by omega)
    refine x_iastore 33 dX7_readMore_32 rfl rfl (by omega) (by omega) ?_
    refine x_aload_n 34 0 dX7_readMore_33 rfl rfl (by decide) rfl ?_
    refine x_dup 35 dX7_readMore_34 rfl rfl ?_
    refine x_getI 38 3 3 rfl dX7_readMore_35 rfl fX7_104 rfl rfl (fun g35 => ?_)
    rw [up2_o _ _ _ (by omega), f3]
    refine x_iconst 39 dX7_readMore_38 rfl ?_
    refine x_iadd 40 dX7_readMore_39 rfl ?_
    refine x_putI 43 3 3 rfl dX7_readMore_40 rfl fX7_104 rfl rfl rfl (by omega) ?_
    refine x_vret dX7_readMore_43 rfl ⟨rfl, Nat.le_refl _⟩ (qv_i ?_)
    refine ⟨((((FD.rf M).up _ _).tr (FD.fs hF1)).up _ _).up0 _ _ (by omega), fun z => ?_, fun z => ?_⟩
    · rw [up2_k _ _ _ (by omega), up2_k _ _ _ (by omega), up2_o _ _ _ (by omega)]; exact (qa z).2
    · obtain ⟨rfl, hK1⟩ := qb z
      refine ⟨hK1.keep (fun k h1 h2 => by rw [up2_k _ _ _ (by omega), up2_o _ _ _ (by omega)]), RD_addT hD (by omega) hf10.2 (up2_s _ _ _ _) (fun z => ?_), (hTT.keep (M2 := up2 (up2 M1 52 (5 + vn d) (tkV b n p)) 50 3 (vn d + 1)) (by rw [up2_k _ _ _ (by omega), up2_o _ _ _ (by omega)]; exact f4))⟩
      rw [up2_o _ _ _ (by omega), up2_i, f52, up2_i]

set_option maxHeartbeats 4000000 in
theorem m_readGame {g : GG} {M : Mem} {n : Int} {b : Int → Int} {d : LV} (hT : TQ M n b) (p : Int) (hK : TKS b n p M) (hB : tkBb b n p = false) (hpn : 0 ≤ p ∧ p ≤ n) (hD : RD M d) (hTT : TT M d) (hn5 : 0 ≤ vn d ∧ vn d ≤ 5) (hf10 : 0 ≤ vf d ∧ vf d < 10) : CV g tX7_readMore 4 [rv g 50, iv 4] M (fun M2 => FD M M2 ∧ ((gmO b n p).1 ≠ 0 → M2 50 8 = (gmO b n p).1 ∧ M2 50 9 = (gmO b n p).2) ∧ ((gmO b n p).1 = 0 → TKS b n (tkE b n (tkE b n p)) M2 ∧ RD M2 (addF d (tkV b n p) (tkV b n (tkE b n p))) ∧ TT M2 (addF d (tkV b n p) (tkV b n (tkE b n p))))) := by
  refine Con.of [some (rv g 50), some (iv 4), none, none] (by decide +kernel) rfl (Nat.le_of_ble_eq_true rfl) ?_
  have d3 := hD.1
  have d40 := hD.2.1
  have hvb := tkV_bd hpn.2 hB
  have hE := tkE_le (b := b) hpn.2
  have hS := tkS_le (b := b) hpn.2
  have nO1 := numO_b b n p 4
  have nO2 := numO_b b n (tkE b n p) 4
  have tailB : ∀ (M3 : Mem) (c pl x : Int), 0 < c → M3 50 8 = c → M3 50 9 = pl → FD M M3 → M3 52 = M 52 → (0 ≤ x ∧ x ≤ 99) → gmO b n p = (c, pl) → X g tX7_readMore (kk0 4) 85 [some (rv g 50), some (iv 4), some (iv (vf d)), some (iv x)] [] (S0, R0, M3) (QV (fun M2 => FD M M2 ∧ ((gmO b n p).1 ≠ 0 → M2 50 8 = (gmO b n p).1 ∧ M2 50 9 = (gmO b n p).2) ∧ ((gmO b n p).1 = 0 → TKS b n (tkE b n (tkE b n p)) M2 ∧ RD M2 (addF d (tkV b n p) (tkV b n (tkE b n p))) ∧ TT M2 (addF d (tkV b n p) (tkV b n (tkE b n p)))))) := by
    intro M3 c pl x hc u8 u9 hF3 h52 hx hg
    have hM40 : M3 52 40 = vf d := by (rw [h52]; exact d40)
    refine x_aload_n 86 0 dX7_readMore_85 rfl rfl (by decide) rfl ?_
    refine x_getR 89 2 52 dX7_readMore_86 rfl fX7_13 rfl rfl rfl ?_
    refine x_bipush 91 dX7_readMore_89 rfl (by decide) ?_
    refine x_iload_n 92 2 dX7_readMore_91 rfl rfl (by decide) rfl ?_
    refine x_iadd 93 dX7_readMore_92 rfl ?_
    refine x_iload_n 94 3 dX7_readMore_93 rfl rfl (by decide) rfl ?_
    refine x_iastore 95 dX7_readMore_94 rfl rfl (by omega) (by omega) ?_
    refine x_aload_n 96 0 dX7_readMore_95 rfl rfl (by decide) rfl ?_
    refine x_getR 99 2 52 dX7_readMore_96 rfl fX7_13 rfl rfl rfl ?_
    refine x_bipush 101 dX7_readMore_99 rfl (by decide) ?_
    refine x_iload_n 102 2 dX7_readMore_101 rfl rfl (by decide) rfl ?_
    refine x_iadd 103 dX7_readMore_102 rfl ?_
    refine x_aload_n 104 0 dX7_readMore_103 rfl rfl (by decide) rfl ?_
    refine x_vi 107 [] (m_townHereB (by rw [up2_o _ _ _ (by omega)]; omega)) mX7_townHere kX7_107 dX7_readMore_104 rfl rfl ⟨by decide, rfl⟩ rfl rfl (Nat.le_of_ble_eq_true rfl) (by decide) (fun r4 M4 q4 => ?_)
    obtain ⟨Ma, ⟨rfl, rfl⟩, rfl⟩ := q4
    refine x_iastore 108 dX7_readMore_107 rfl rfl (by omega) (by omega) ?_
    refine x_aload_n 109 0 dX7_readMore_108 rfl rfl (by decide) rfl ?_
    refine x_getR 112 2 52 dX7_readMore_109 rfl fX7_13 rfl rfl rfl ?_
    refine x_bipush 114 dX7_readMore_112 rfl (by decide) ?_
    refine x_dup2 115 dX7_readMore_114 rfl rfl rfl ?_
    refine x_iaload 116 dX7_readMore_115 rfl rfl (by omega) (fun g115 => ?_)
    rw [up2_k _ _ _ (by omega), up2_o _ _ _ (by omega), up2_k _ _ _ (by omega), hM40]
    refine x_iconst 117 dX7_readMore_116 rfl ?_
    refine x_iadd 118 dX7_readMore_117 rfl ?_
    refine x_iastore 119 dX7_readMore_118 rfl rfl (by omega) (by omega) ?_
    refine x_vret dX7_readMore_119 rfl ⟨rfl, Nat.le_refl _⟩ (qv_i ?_)
    rw [hg]
    refine ⟨(((hF3.up _ _).up0 _ _ (by omega)).up _ _).up _ _, fun _ => ⟨?_, ?_⟩, fun z => ?_⟩
    · rw [up2_o _ _ _ (by omega), up2_o _ _ _ (by omega), up2_k _ _ _ (by omega), up2_o _ _ _ (by omega)]; exact u8
    · rw [up2_o _ _ _ (by omega), up2_o _ _ _ (by omega), up2_k _ _ _ (by omega), up2_o _ _ _ (by omega)]; exact u9
    · have z : c = 0 := z
      omega
  have tailO : ∀ (M3 : Mem), TKS b n (tkE b n p) M3 → tkBb b n (tkE b n p) = false → numO b n p 4 = 0 → ¬ (tkK b n (tkE b n p) = 2 ∧ tkV b n (tkE b n p) = tkV b n p) → FD M M3 → M3 52 = M 52 → M3 50 3 = M 50 3 → M3 50 4 = max (tkV b n p) (M 50 4) → X g tX7_readMore (kk0 4) 85 [some (rv g 50), some (iv 4), some (iv (vf d)), some (iv (tkV b n p))] [] (S0, R0, M3) (QV (fun M2 => FD M M2 ∧ ((gmO b n p).1 ≠ 0 → M2 50 8 = (gmO b n p).1 ∧ M2 50 9 = (gmO b n p).2) ∧ ((gmO b n p).1 = 0 → TKS b n (tkE b n (tkE b n p)) M2 ∧ RD M2 (addF d (tkV b n p) (tkV b n (tkE b n p))) ∧ TT M2 (addF d (tkV b n p) (tkV b n (tkE b n p)))))) := by
    intro M3 hK3 hB2 hz1 hne hF3 h52 h3 h4
    have hM40 : M3 52 40 = vf d := by (rw [h52]; exact d40)
    have hvb2 := tkV_bd (show tkE b n p ≤ n by omega) hB2
    obtain ⟨-, hk2, hv4⟩ := numO_0 hz1
    have hgm : gmO b n p = if numO b n (tkE b n p) 4 ≠ 0 then (numO b n (tkE b n p) 4, tkS b n (tkE b n p)) else (0, 0) := by
      unfold gmO
      rw [if_neg (by omega)]
      by_cases z : numO b n (tkE b n p) 4 ≠ 0
      · rw [if_pos z, if_pos z]
      · have zz := numO_0 (Decidable.not_not.mp z)
        rw [if_neg z, if_neg z, if_neg (fun q => hne ⟨zz.2.1, q.symm⟩)]
    refine x_aload_n 86 0 dX7_readMore_85 rfl rfl (by decide) rfl ?_
    refine x_getR 89 2 52 dX7_readMore_86 rfl fX7_13 rfl rfl rfl ?_
    refine x_bipush 91 dX7_readMore_89 rfl (by decide) ?_
    refine x_iload_n 92 2 dX7_readMore_91 rfl rfl (by decide) rfl ?_
    refine x_iadd 93 dX7_readMore_92 rfl ?_
    refine x_iload_n 94 3 dX7_readMore_93 rfl rfl (by decide) rfl ?_
    refine x_iastore 95 dX7_readMore_94 rfl rfl (by omega) (by omega) ?_
    refine x_aload_n 96 0 dX7_readMore_95 rfl rfl (by decide) rfl ?_
    refine x_getR 99 2 52 dX7_readMore_96 rfl fX7_13 rfl rfl rfl ?_
    refine x_bipush 101 dX7_readMore_99 rfl (by decide) ?_
    refine x_iload_n 102 2 dX7_readMore_101 rfl rfl (by decide) rfl ?_
    refine x_iadd 103 dX7_readMore_102 rfl ?_
    refine x_aload_n 104 0 dX7_readMore_103 rfl rfl (by decide) rfl ?_
    refine x_vi 107 [] (m_townHere ((hT.fl hF3).keep (M2 := up2 M3 52 (20 + vf d) (tkV b n p)) (by rw [up2_o _ _ _ (by omega)]) (fun a ha => up2_o _ _ _ (by omega))) (tkE b n p) (hK3.keep (fun k _ _ => by rw [up2_o _ _ _ (by omega)])) hB2 (by omega)) mX7_townHere kX7_107 dX7_readMore_104 rfl rfl ⟨by decide, rfl⟩ rfl rfl (Nat.le_of_ble_eq_true rfl) (by decide) (fun r4 M4 q4 => ?_)
    obtain ⟨Ma, ⟨hFa, qa, qb⟩, rfl⟩ := q4
    have rb : 0 ≤ r4 ∧ r4 ≤ 99 := by
      by_cases z : numO b n (tkE b n p) 4 = 0
      · rw [(qb z).1]; exact hvb2
      · rw [(qa z).1]; omega
    have f52 : Ma 52 = up2 M3 52 (20 + vf d) (tkV b n p) 52 := hFa.1 52 (by omega)
    have f4 : Ma 50 4 = max (tkV b n p) (M 50 4) := (hFa.2 4 (by omega)).trans (by rw [up2_o _ _ _ (by omega)]; exact h4)
    have f3 : Ma 50 3 = M 50 3 := (hFa.2 3 (by omega)).trans (by rw [up2_o _ _ _ (by omega)]; exact h3)
    refine x_iastore 108 dX7_readMore_107 rfl rfl (by omega) (by omega) ?_
    refine x_aload_n 109 0 dX7_readMore_108 rfl rfl (by decide) rfl ?_
    refine x_getR 112 2 52 dX7_readMore_109 rfl fX7_13 rfl rfl rfl ?_
    refine x_bipush 114 dX7_readMore_112 rfl (by decide) ?_
    refine x_dup2 115 dX7_readMore_114 rfl rfl rfl ?_
    refine x_iaload 116 dX7_readMore_115 rfl rfl (by omega) (fun g115 => ?_)
    rw [up2_k _ _ _ (by omega), up2_o _ _ _ (by omega), f52, up2_k _ _ _ (by omega), hM40]
    refine x_iconst 117 dX7_readMore_116 rfl ?_
    refine x_iadd 118 dX7_readMore_117 rfl ?_
    refine x_iastore 119 dX7_readMore_118 rfl rfl (by omega) (by omega) ?_
    refine x_vret dX7_readMore_119 rfl ⟨rfl, Nat.le_refl _⟩ (qv_i ?_)
    rw [hgm]
    refine ⟨((((hF3.up _ _).tr (FD.fs hFa)).up0 _ _ (by omega)).up _ _).up _ _, fun z => ?_, fun z => ?_⟩
    · by_cases z2 : numO b n (tkE b n p) 4 ≠ 0
      · rw [if_pos z2] at z ⊢
        rw [up2_o _ _ _ (by omega), up2_o _ _ _ (by omega), up2_k _ _ _ (by omega), up2_k _ _ _ (by omega)]
        exact (qa z2).2
      · rw [if_neg z2] at z
        exact absurd rfl z
    · by_cases z2 : numO b n (tkE b n p) 4 ≠ 0
      · rw [if_pos z2] at z
        exact absurd z z2
      · obtain ⟨er, hK4⟩ := qb (Decidable.not_not.mp z2)
        obtain ⟨-, -, hv42⟩ := numO_0 (Decidable.not_not.mp z2)
        subst er
        refine ⟨hK4.keep (fun k h1 h2 => by rw [up2_o _ _ _ (by omega), up2_o _ _ _ (by omega), up2_k _ _ _ (by omega)]), RD_addF hD (by omega) (by omega) (by rw [up2_o _ _ _ (by omega), up2_o _ _ _ (by omega), up2_k _ _ _ (by omega)]; exact f3) (fun z => ?_), TT_addF hTT (by omega) (by omega) (by omega) (by rw [up2_o _ _ _ (by omega), up2_o _ _ _ (by omega), up2_s, f4])⟩
        rw [up2_i, up2_i, up2_o _ _ _ (by omega), f52, up2_i, h52]
  by_cases hz1 : numO b n p 4 = 0
  · have hgv := numO_0 hz1
    by_cases hB2 : tkBb b n (tkE b n p) = true
    · have hn2 : numO b n (tkE b n p) 4 = 1 := by (unfold numO; rw [if_pos hB2])
      have hg : gmO b n p = (1, tkS b n (tkE b n p)) := by (unfold gmO; rw [if_neg (by omega), if_pos (by omega), hn2])
      refine x_iload_n 1 1 dX7_readMore_0 rfl rfl (by decide) rfl ?_
      refine x_iconst 2 dX7_readMore_1 rfl ?_
      refine x_icmp_gt 44 5 dX7_readMore_2 (by decide) rfl (by omega) (fun h2 => ?_) (fun h2 => ?_)
      · refine x_aload_n 45 0 dX7_readMore_44 rfl rfl (by decide) rfl ?_
        refine x_getR 48 2 52 dX7_readMore_45 rfl fX7_13 rfl rfl rfl ?_
        refine x_bipush 50 dX7_readMore_48 rfl (by decide) ?_
        refine x_iaload 51 dX7_readMore_50 rfl rfl (by omega) (fun g50 => ?_)
        rw [d40]
        refine x_istore_n 52 2 _ dX7_readMore_51 rfl rfl (by decide) rfl rfl ?_
        refine x_aload_n 53 0 dX7_readMore_52 rfl rfl (by decide) rfl ?_
        refine x_vi 56 [] (m_townHere hT p hK hB hpn) mX7_townHere kX7_107 dX7_readMore_53 rfl rfl ⟨by decide, rfl⟩ rfl rfl (Nat.le_of_ble_eq_true rfl) (by decide) (fun r1 M1 q1 => ?_)
        obtain ⟨Ma, ⟨hFa, qa, qb⟩, rfl⟩ := q1
        have a52 : Ma 52 = M 52 := hFa.1 52 (by omega)
        have a4 : Ma 50 4 = M 50 4 := hFa.2 4 (by omega)
        have hFb : FD M (up2 Ma 50 4 (max r1 (Ma 50 4))) := (FD.fs hFa).up0 _ _ (by omega)
        have b52 : up2 Ma 50 4 (max r1 (Ma 50 4)) 52 = M 52 := by (rw [up2_o _ _ _ (by omega)]; exact a52)
        refine x_istore_n 57 3 _ dX7_readMore_56 rfl rfl (by decide) rfl rfl ?_
        obtain ⟨rfl, hK1⟩ := qb hz1
        obtain ⟨u8, u9⟩ := hK1.2.2.2.1 hB2
        refine x_aload_n 58 0 dX7_readMore_57 rfl rfl (by decide) rfl ?_
        refine x_getI 61 8 8 rfl dX7_readMore_58 rfl fX7_60 rfl rfl (fun g58 => ?_)
        rw [up2_k _ _ _ (by omega), u8]
        refine x_if_ne 85 64 dX7_readMore_61 (by decide) rfl (by omega) (fun h61 => ?_) (fun h61 => ?_)
        · exact tailB _ 1 (tkS b n (tkE b n p)) (tkV b n p) (by omega) (by first | exact u8 | (rw [up2_k _ _ _ (by omega)]; exact u8)) (by first | exact u9 | (rw [up2_k _ _ _ (by omega)]; exact u9)) hFb b52 (by omega) hg
        · exfalso; omega
      · exfalso; omega
    · have hB2 : tkBb b n (tkE b n p) = false := Bool.eq_false_iff.mpr hB2
      by_cases heq : tkK b n (tkE b n p) = 2 ∧ tkV b n (tkE b n p) = tkV b n p
      · have hn2 : numO b n (tkE b n p) 4 = 0 := by (unfold numO; rw [hB2, if_neg (by decide), if_neg (by omega), if_neg (by omega)])
        have hg : gmO b n p = (3, tkS b n (tkE b n p)) := by (unfold gmO; rw [if_neg (by omega), if_neg (by omega), if_pos heq.2.symm])
        refine x_iload_n 1 1 dX7_readMore_0 rfl rfl (by decide) rfl ?_
        refine x_iconst 2 dX7_readMore_1 rfl ?_
        refine x_icmp_gt 44 5 dX7_readMore_2 (by decide) rfl (by omega) (fun h2 => ?_) (fun h2 => ?_)
        · refine x_aload_n 45 0 dX7_readMore_44 rfl rfl (by decide) rfl ?_
          refine x_getR 48 2 52 dX7_readMore_45 rfl fX7_13 rfl rfl rfl ?_
          refine x_bipush 50 dX7_readMore_48 rfl (by decide) ?_
          refine x_iaload 51 dX7_readMore_50 rfl rfl (by omega) (fun g50 => ?_)
          rw [d40]
          refine x_istore_n 52 2 _ dX7_readMore_51 rfl rfl (by decide) rfl rfl ?_
          refine x_aload_n 53 0 dX7_readMore_52 rfl rfl (by decide) rfl ?_
          refine x_vi 56 [] (m_townHere hT p hK hB hpn) mX7_townHere kX7_107 dX7_readMore_53 rfl rfl ⟨by decide, rfl⟩ rfl rfl (Nat.le_of_ble_eq_true rfl) (by decide) (fun r1 M1 q1 => ?_)
          obtain ⟨Ma, ⟨hFa, qa, qb⟩, rfl⟩ := q1
          have a52 : Ma 52 = M 52 := hFa.1 52 (by omega)
          have a4 : Ma 50 4 = M 50 4 := hFa.2 4 (by omega)
          have hFb : FD M (up2 Ma 50 4 (max r1 (Ma 50 4))) := (FD.fs hFa).up0 _ _ (by omega)
          have b52 : up2 Ma 50 4 (max r1 (Ma 50 4)) 52 = M 52 := by (rw [up2_o _ _ _ (by omega)]; exact a52)
          refine x_istore_n 57 3 _ dX7_readMore_56 rfl rfl (by decide) rfl rfl ?_
          obtain ⟨rfl, hK1⟩ := qb hz1
          obtain ⟨v11, v12, v10, -, v8_⟩ := id hK1
          obtain ⟨v8, v13⟩ := v8_ hB2
          have kb := tkK_b b n (tkE b n p)
          have hvb2 := tkV_bd (show tkE b n p ≤ n by omega) hB2
          refine x_aload_n 58 0 dX7_readMore_57 rfl rfl (by decide) rfl ?_
          refine x_getI 61 8 8 rfl dX7_readMore_58 rfl fX7_60 rfl rfl (fun g58 => ?_)
          rw [up2_k _ _ _ (by omega), v8]
          refine x_if_ne 85 64 dX7_readMore_61 (by decide) rfl (by omega) (fun h61 => ?_) (fun h61 => ?_)
          · exfalso; omega
          · refine x_aload_n 65 0 dX7_readMore_64 rfl rfl (by decide) rfl ?_
            refine x_getI 68 12 12 rfl dX7_readMore_65 rfl fX7_69 rfl rfl (fun g65 => ?_)
            rw [up2_k _ _ _ (by omega), v12]
            refine x_iconst 69 dX7_readMore_68 rfl ?_
            refine x_icmp_ne 85 72 dX7_readMore_69 (by decide) rfl (by omega) (fun h69 => ?_) (fun h69 => ?_)
            · exfalso; omega
            · refine x_aload_n 73 0 dX7_readMore_72 rfl rfl (by decide) rfl ?_
              refine x_getI 76 13 13 rfl dX7_readMore_73 rfl fX7_79 rfl rfl (fun g73 => ?_)
              rw [up2_k _ _ _ (by omega), v13]
              refine x_iload_n 77 3 dX7_readMore_76 rfl rfl (by decide) rfl ?_
              refine x_icmp_ne 85 80 dX7_readMore_77 (by decide) rfl (by omega) (fun h77 => ?_) (fun h77 => ?_)
              · exfalso; omega
              · refine x_aload_n 81 0 dX7_readMore_80 rfl rfl (by decide) rfl ?_
                refine x_iconst 82 dX7_readMore_81 rfl ?_
                refine x_vv 85 [_] (m_fails 3 (by omega)) mX7_fails kX7_90 dX7_readMore_82 rfl rfl ⟨by decide, rfl⟩ rfl rfl (Nat.le_of_ble_eq_true rfl) (by decide) (fun M5 q5 => ?_)
                rw [if_pos (by rw [up2_k _ _ _ (by omega)]; exact v8)] at q5
                have u8 : M5 50 8 = 3 := by (rw [q5, up2_k _ _ _ (by omega), up2_s])
                have u9 : M5 50 9 = tkS b n (tkE b n p) := by (rw [q5, up2_s, up2_k _ _ _ (by omega)]; exact v11)
                have hFc : FD M M5 := by (rw [q5]; exact (hFb.up0 _ _ (by omega)).up0 _ _ (by omega))
                have c52 : M5 52 = M 52 := by (rw [q5, up2_o _ _ _ (by omega), up2_o _ _ _ (by omega)]; exact b52)
                exact tailB _ 3 (tkS b n (tkE b n p)) (tkV b n p) (by omega) u8 u9 hFc c52 (by omega) hg
        · exfalso; omega
      · skip
        refine x_iload_n 1 1 dX7_readMore_0 rfl rfl (by decide) rfl ?_
        refine x_iconst 2 dX7_readMore_1 rfl ?_
        refine x_icmp_gt 44 5 dX7_readMore_2 (by decide) rfl (by omega) (fun h2 => ?_) (fun h2 => ?_)
        · refine x_aload_n 45 0 dX7_readMore_44 rfl rfl (by decide) rfl ?_
          refine x_getR 48 2 52 dX7_readMore_45 rfl fX7_13 rfl rfl rfl ?_
          refine x_bipush 50 dX7_readMore_48 rfl (by decide) ?_
          refine x_iaload 51 dX7_readMore_50 rfl rfl (by omega) (fun g50 => ?_)
          rw [d40]
          refine x_istore_n 52 2 _ dX7_readMore_51 rfl rfl (by decide) rfl rfl ?_
          refine x_aload_n 53 0 dX7_readMore_52 rfl rfl (by decide) rfl ?_
          refine x_vi 56 [] (m_townHere hT p hK hB hpn) mX7_townHere kX7_107 dX7_readMore_53 rfl rfl ⟨by decide, rfl⟩ rfl rfl (Nat.le_of_ble_eq_true rfl) (by decide) (fun r1 M1 q1 => ?_)
          obtain ⟨Ma, ⟨hFa, qa, qb⟩, rfl⟩ := q1
          have a52 : Ma 52 = M 52 := hFa.1 52 (by omega)
          have a4 : Ma 50 4 = M 50 4 := hFa.2 4 (by omega)
          have hFb : FD M (up2 Ma 50 4 (max r1 (Ma 50 4))) := (FD.fs hFa).up0 _ _ (by omega)
          have b52 : up2 Ma 50 4 (max r1 (Ma 50 4)) 52 = M 52 := by (rw [up2_o _ _ _ (by omega)]; exact a52)
          refine x_istore_n 57 3 _ dX7_readMore_56 rfl rfl (by decide) rfl rfl ?_
          obtain ⟨rfl, hK1⟩ := qb hz1
          obtain ⟨v11, v12, v10, -, v8_⟩ := id hK1
          obtain ⟨v8, v13⟩ := v8_ hB2
          have kb := tkK_b b n (tkE b n p)
          have hvb2 := tkV_bd (show tkE b n p ≤ n by omega) hB2
          refine x_aload_n 58 0 dX7_readMore_57 rfl rfl (by decide) rfl ?_
          refine x_getI 61 8 8 rfl dX7_readMore_58 rfl fX7_60 rfl rfl (fun g58 => ?_)
          rw [up2_k _ _ _ (by omega), v8]
          refine x_if_ne 85 64 dX7_readMore_61 (by decide) rfl (by omega) (fun h61 => ?_) (fun h61 => ?_)
          · exfalso; omega
          · refine x_aload_n 65 0 dX7_readMore_64 rfl rfl (by decide) rfl ?_
            refine x_getI 68 12 12 rfl dX7_readMore_65 rfl fX7_69 rfl rfl (fun g65 => ?_)
            rw [up2_k _ _ _ (by omega), v12]
            refine x_iconst 69 dX7_readMore_68 rfl ?_
            refine x_icmp_ne 85 72 dX7_readMore_69 (by decide) rfl (by omega) (fun h69 => ?_) (fun h69 => ?_)
            · exact tailO _ (hK1.keep (fun k h1 h2 => by rw [up2_k _ _ _ (by omega)])) hB2 hz1 heq hFb b52 (by rw [up2_k _ _ _ (by omega)]; exact hFa.2 3 (by omega)) (by rw [up2_s, a4])
            · refine x_aload_n 73 0 dX7_readMore_72 rfl rfl (by decide) rfl ?_
              refine x_getI 76 13 13 rfl dX7_readMore_73 rfl fX7_79 rfl rfl (fun g73 => ?_)
              rw [up2_k _ _ _ (by omega), v13]
              refine x_iload_n 77 3 dX7_readMore_76 rfl rfl (by decide) rfl ?_
              refine x_icmp_ne 85 80 dX7_readMore_77 (by decide) rfl (by omega) (fun h77 => ?_) (fun h77 => ?_)
              · exact tailO _ (hK1.keep (fun k h1 h2 => by rw [up2_k _ _ _ (by omega)])) hB2 hz1 heq hFb b52 (by rw [up2_k _ _ _ (by omega)]; exact hFa.2 3 (by omega)) (by rw [up2_s, a4])
              · exfalso; omega
        · exfalso; omega
  · have hg : gmO b n p = (numO b n p 4, tkS b n p) := by (unfold gmO; rw [if_pos hz1])
    refine x_iload_n 1 1 dX7_readMore_0 rfl rfl (by decide) rfl ?_
    refine x_iconst 2 dX7_readMore_1 rfl ?_
    refine x_icmp_gt 44 5 dX7_readMore_2 (by decide) rfl (by omega) (fun h2 => ?_) (fun h2 => ?_)
    · refine x_aload_n 45 0 dX7_readMore_44 rfl rfl (by decide) rfl ?_
      refine x_getR 48 2 52 dX7_readMore_45 rfl fX7_13 rfl rfl rfl ?_
      refine x_bipush 50 dX7_readMore_48 rfl (by decide) ?_
      refine x_iaload 51 dX7_readMore_50 rfl rfl (by omega) (fun g50 => ?_)
      rw [d40]
      refine x_istore_n 52 2 _ dX7_readMore_51 rfl rfl (by decide) rfl rfl ?_
      refine x_aload_n 53 0 dX7_readMore_52 rfl rfl (by decide) rfl ?_
      refine x_vi 56 [] (m_townHere hT p hK hB hpn) mX7_townHere kX7_107 dX7_readMore_53 rfl rfl ⟨by decide, rfl⟩ rfl rfl (Nat.le_of_ble_eq_true rfl) (by decide) (fun r1 M1 q1 => ?_)
      obtain ⟨Ma, ⟨hFa, qa, qb⟩, rfl⟩ := q1
      have a52 : Ma 52 = M 52 := hFa.1 52 (by omega)
      have a4 : Ma 50 4 = M 50 4 := hFa.2 4 (by omega)
      have hFb : FD M (up2 Ma 50 4 (max r1 (Ma 50 4))) := (FD.fs hFa).up0 _ _ (by omega)
      have b52 : up2 Ma 50 4 (max r1 (Ma 50 4)) 52 = M 52 := by (rw [up2_o _ _ _ (by omega)]; exact a52)
      refine x_istore_n 57 3 _ dX7_readMore_56 rfl rfl (by decide) rfl rfl ?_
      obtain ⟨rfl, u8, u9⟩ := qa hz1
      refine x_aload_n 58 0 dX7_readMore_57 rfl rfl (by decide) rfl ?_
      refine x_getI 61 8 8 rfl dX7_readMore_58 rfl fX7_60 rfl rfl (fun g58 => ?_)
      rw [up2_k _ _ _ (by omega), u8]
      refine x_if_ne 85 64 dX7_readMore_61 (by decide) rfl (by omega) (fun h61 => ?_) (fun h61 => ?_)
      · exact tailB _ (numO b n p 4) (tkS b n p) 0 (by omega) (by first | exact u8 | (rw [up2_k _ _ _ (by omega)]; exact u8)) (by first | exact u9 | (rw [up2_k _ _ _ (by omega)]; exact u9)) hFb b52 (by omega) hg
      · exfalso; omega
    · exfalso; omega
