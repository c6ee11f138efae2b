/-! ===== orders told by the figures of a number ===== -/
def dg (f c k : Nat) : Nat := c / f ^ (f - 1 - k) % f
def ub (f c : Nat) : Nat → Nat
  | 0 => 0
  | j + 1 => ub f c j ||| 2 ^ (dg f c (f - 1 - j))
def isP (f c : Nat) : Bool := Nat.beq (ub f c f) (2 ^ f - 1)
def agr (f c r : Nat) : Nat → Bool
  | 0 => true
  | p + 1 => agr f c r p && Nat.beq (dg f c p) (rowF f r p)
def chk (f : Nat) : Nat → Nat → Nat → Bool
  | 0, _, r => Nat.beq r (facN f)
  | n + 1, c, r => if isP f c = true then (Nat.blt r (facN f) && agr f c r f) && chk f n (c + 1) (r + 1) else chk f n (c + 1) r
theorem chk_ok : ∀ f, f < 6 → chk f (f ^ f) 0 0 = true := by decide +kernel
theorem pw5 : ∀ f, f < 6 → ∀ k, k ≤ f → f ^ k ≤ 3125 := by decide +kernel
theorem agr_at {f c r : Nat} : ∀ {n : Nat}, agr f c r n = true → ∀ p, p < n → dg f c p = rowF f r p
  | 0, _, p, hp => by omega
  | n + 1, h, p, hp => by
    have h : (agr f c r n && Nat.beq (dg f c n) (rowF f r n)) = true := h
    rw [Bool.and_eq_true] at h
    by_cases e : p = n
    · subst e; exact Nat.eq_of_beq_eq_true h.2
    · exact agr_at h.1 p (by omega)
theorem chk_y {f n c r : Nat} (h : chk f (n + 1) c r = true) (hp : isP f c = true) : r < facN f ∧ (∀ p, p < f → dg f c p = rowF f r p) ∧ chk f n (c + 1) (r + 1) = true := by
  have h : (if isP f c = true then (Nat.blt r (facN f) && agr f c r f) && chk f n (c + 1) (r + 1) else chk f n (c + 1) r) = true := h
  rw [if_pos hp, Bool.and_eq_true, Bool.and_eq_true] at h
  exact ⟨Nat.le_of_ble_eq_true h.1.1, agr_at h.1.2, h.2⟩
theorem chk_n {f n c r : Nat} (h : chk f (n + 1) c r = true) (hp : ¬ isP f c = true) : chk f n (c + 1) r = true := by
  have h : (if isP f c = true then (Nat.blt r (facN f) && agr f c r f) && chk f n (c + 1) (r + 1) else chk f n (c + 1) r) = true := h
  rw [if_neg hp] at h; exact h
theorem isP_t {f c : Nat} (h : ub f c f = 2 ^ f - 1) : isP f c = true := by
  unfold isP
  cases e : Nat.beq (ub f c f) (2 ^ f - 1) with
  | true => rfl
  | false => exact absurd h (Nat.ne_of_beq_eq_false e)
theorem isP_e {f c : Nat} (h : isP f c = true) : ub f c f = 2 ^ f - 1 := Nat.eq_of_beq_eq_true h
theorem dg_lt {f c k : Nat} (hf : 0 < f) : dg f c k < f := Nat.mod_lt _ hf
theorem ub_lt {f c : Nat} (hf : f ≤ 5) : ∀ j, j ≤ f → ub f c j < 2 ^ 5
  | 0, _ => by show 0 < 2 ^ 5; decide
  | j + 1, h => by
    have h1 := ub_lt (c := c) hf j (by omega)
    have h2 : dg f c (f - 1 - j) < f := dg_lt (by omega)
    exact Nat.or_lt_two_pow h1 (Nat.pow_lt_pow_right (by omega) (by omega))
theorem or_n (a b : Nat) : Int32.ofInt (a : Int) ||| Int32.ofInt (b : Int) = Int32.ofInt ((a ||| b : Nat) : Int) := by rw [iN, iN, iN, nI_or]
/-- from place j on the fixtures stand as r tells -/
def prD (v : LV) (r : Nat → Nat) (j : Int) : LV := setB (setA v (fun p => if j ≤ p then vA v (r p.toNat) else vA v p)) (fun p => if j ≤ p then vB v (r p.toNat) else vB v p)
theorem prD_s {M : Mem} {p : Int} {v : LV} {r : Nat → Nat} {j x y x1 x2 : Int} (h : RP M p (prD v r (j + 1))) (hj : 0 ≤ j ∧ j < 10) (hx : x = vA v (r j.toNat)) (hy : y = vB v (r j.toNat)) (e1 : x1 = p + 20 + j) (e2 : x2 = p + 30 + j) : RP (up2 (up2 M 51 x1 x) 51 x2 y) p (prD v r j) := by
  refine RP.ext (RP_B (RP_A h j x x1 hj e1) j y x2 hj e2) rfl rfl rfl (fun _ _ _ => ⟨rfl, rfl, rfl, rfl⟩) (fun i a b => ⟨?_, ?_⟩)
  · show (if j ≤ i then vA v (r i.toNat) else vA v i) = if i = j then x else if j + 1 ≤ i then vA v (r i.toNat) else vA v i
    by_cases e : i = j
    · subst e; rw [if_pos (by omega), if_pos rfl, hx]
    · rw [if_neg e]
      by_cases e2 : j ≤ i
      · rw [if_pos e2, if_pos (by omega)]
      · rw [if_neg e2, if_neg (by omega)]
  · show (if j ≤ i then vB v (r i.toNat) else vB v i) = if i = j then y else if j + 1 ≤ i then vB v (r i.toNat) else vB v i
    by_cases e : i = j
    · subst e; rw [if_pos (by omega), if_pos rfl, hy]
    · rw [if_neg e]
      by_cases e2 : j ≤ i
      · rw [if_pos e2, if_pos (by omega)]
      · rw [if_neg e2, if_neg (by omega)]
theorem prD_0 {M : Mem} {p : Int} {v : LV} {r : Nat → Nat} {j : Int} (h : RP M p v) (hj : vf v ≤ j) : RP M p (prD v r j) :=
  RP.ext h rfl rfl rfl (fun _ _ _ => ⟨rfl, rfl, rfl, rfl⟩) (fun i a b => ⟨if_neg (by omega), if_neg (by omega)⟩)
theorem prD_e {M : Mem} {p : Int} {v : LV} {r r2 : Nat → Nat} {j : Int} (h : RP M p (prD v r j)) (hj : j ≤ 0) (hr : ∀ q : Nat, (q : Int) < vf v → r q = r2 q) : RP M p (permV v r2) := by
  refine RP.ext h rfl rfl rfl (fun _ _ _ => ⟨rfl, rfl, rfl, rfl⟩) (fun i a b => ⟨?_, ?_⟩)
  · have b : i < vf v := b
    show vA v (r2 i.toNat) = if j ≤ i then vA v (r i.toNat) else vA v i
    rw [if_pos (by omega), hr i.toNat (by omega)]
  · have b : i < vf v := b
    show vB v (r2 i.toNat) = if j ≤ i then vB v (r i.toNat) else vB v i
    rw [if_pos (by omega), hr i.toNat (by omega)]

set_option maxHeartbeats 4000000 in
theorem m_ordered {g : GG} {M : Mem} {v : LV} (hR : RP M 0 v) (hW : WF v) (f c : Nat) (hvf : vf v = f) (hf5 : f ≤ 5) (hc : c ≤ 100000) : CI g tX7_ordered 1 [rv g 50, iv c] M (fun r M3 => r = bI (isP f c = true) ∧ RP M3 210 (prD v (dg f c) 0) ∧ FP 210 M M3) := by
  refine Con.of [some (rv g 50), some (iv c), none, none, none, none, none] (by decide +kernel) rfl (Nat.le_of_ble_eq_true rfl) ?_
  have w1 := hW.1
  have e40 : M 51 40 = vf v := hR.F (by omega)
  have loop : ∀ (m n : Nat) (M2 : Mem) (j6 : Option Value), f - n < m → n ≤ f → RP M2 210 (prD v (dg f c) ((f : Int) - n)) → FP 210 M M2 → X g tX7_ordered (kk0 1) 26 [some (rv g 50), some (iv c), some (iv f), some (iv (ub f c n : Nat)), some (iv (c / f ^ n : Nat)), some (iv ((f : Int) - 1 - n)), j6] [] (S0, R0, M2) (QI (fun r M3 => r = bI (isP f c = true) ∧ RP M3 210 (prD v (dg f c) 0) ∧ FP 210 M M3)) := by
    intro m
    induction m with
    | zero => intro n M2 j6 k1 k2; omega
    | succ m ih =>
      intro n M2 j6 k1 k2 hR2 hF2
      have hub := ub_lt (c := c) hf5 n k2
      have hub : ub f c n < 32 := hub
      have hcd : c / f ^ n ≤ c := Nat.div_le_self _ _
      refine x_iload 28 5 dX7_ordered_26 rfl (by decide) rfl ?_
      refine x_if_lt 98 31 dX7_ordered_28 (by decide) rfl (by omega) (fun h28 => ?_) (fun h28 => ?_)
      · refine x_cut 112 (fun z => z = bI (isP f c = true)) (fun tail98 => ?_) (fun z98 hz98 => ?_)
        · refine x_iload_n 99 3 dX7_ordered_98 rfl rfl (by decide) rfl ?_
          refine x_iconst 100 dX7_ordered_99 rfl ?_
          refine x_iload_n 101 2 dX7_ordered_100 rfl rfl (by decide) rfl ?_
          refine x_ishl 102 ((2 ^ f : Nat) : Int) dX7_ordered_101 rfl (shl1 (by omega)) ?_
          refine x_iconst 103 dX7_ordered_102 rfl ?_
          refine x_isub 104 dX7_ordered_103 rfl ?_
          refine x_icmp_ne 111 107 dX7_ordered_104 (by decide) rfl (by have h25 : 2 ^ f ≤ 2 ^ 5 := Nat.pow_le_pow_right (by omega) hf5; have h2p : 0 < 2 ^ f := Nat.pow_pos (by omega); omega) (fun h104 => ?_) (fun h104 => ?_)
          · refine x_iconst 112 dX7_ordered_111 rfl ?_
            have en : n = f := by omega
            subst en
            have h2n : 1 ≤ 2 ^ n := Nat.pow_pos (by omega)
            first
              | exact tail98 _ (bI_t (isP_t (by omega))).symm
              | exact tail98 _ (bI_f (fun q => by have := isP_e q; omega)).symm
          · refine x_iconst 108 dX7_ordered_107 rfl ?_
            refine x_goto 112 dX7_ordered_108 (by decide) ?_
            have en : n = f := by omega
            subst en
            have h2n : 1 ≤ 2 ^ n := Nat.pow_pos (by omega)
            first
              | exact tail98 _ (bI_t (isP_t (by omega))).symm
              | exact tail98 _ (bI_f (fun q => by have := isP_e q; omega)).symm
        · have en : n = f := by omega
          subst z98
          refine x_zret dX7_ordered_112 rfl (by first | exact Or.inl rfl | exact Or.inr rfl | exact bI_or _ | omega) ⟨rfl, Nat.le_refl _⟩ (qi_i ?_)
          rw [en, Int.sub_self] at hR2
          exact ⟨rfl, hR2, hF2⟩
      · have hlt : n < f := by omega
        have hdg : dg f c (f - 1 - n) = c / f ^ n % f := by (unfold dg; rw [show f - 1 - (f - 1 - n) = n by omega])
        have hdl : dg f c (f - 1 - n) < f := dg_lt (by omega)
        refine x_iload 33 4 dX7_ordered_31 rfl (by decide) rfl ?_
        refine x_iload_n 34 2 dX7_ordered_33 rfl rfl (by decide) rfl ?_
        refine x_irem 35 dX7_ordered_34 rfl (⟨Int.natCast_nonneg _, Int.le_trans (Int.ofNat_le.mpr hcd) (by omega), by omega, by omega⟩) ?_
        rw [show ((c / f ^ n : Nat) : Int) % (f : Int) = ((dg f c (f - 1 - n) : Nat) : Int) by rw [hdg]; rfl]
        refine x_istore 37 6 _ dX7_ordered_35 rfl (by decide) rfl rfl ?_
        refine x_iload_n 38 3 dX7_ordered_37 rfl rfl (by decide) rfl ?_
        refine x_iconst 39 dX7_ordered_38 rfl ?_
        refine x_iload 41 6 dX7_ordered_39 rfl (by decide) rfl ?_
        refine x_ishl 42 ((2 ^ dg f c (f - 1 - n) : Nat) : Int) dX7_ordered_41 rfl (shl1 (by omega)) ?_
        refine x_ior 43 ((ub f c n ||| 2 ^ dg f c (f - 1 - n) : Nat) : Int) dX7_ordered_42 rfl (or_n _ _) ?_
        refine x_istore_n 44 3 _ dX7_ordered_43 rfl rfl (by decide) rfl rfl ?_
        refine x_aload_n 45 0 dX7_ordered_44 rfl rfl (by decide) rfl ?_
        refine x_getR 48 0 51 dX7_ordered_45 rfl fX7_7 rfl rfl rfl ?_
        refine x_sipush 51 dX7_ordered_48 rfl (by decide) ?_
        refine x_iload 53 5 dX7_ordered_51 rfl (by decide) rfl ?_
        refine x_iadd 54 dX7_ordered_53 rfl ?_
        have hV2 := hR.far hF2 (by omega)
        have eA : M2 51 (20 + ((dg f c (f - 1 - n) : Nat) : Int)) = vA v (dg f c (f - 1 - n) : Nat) := hV2.A (by omega) (by omega) (by omega)
        have eB : M2 51 (30 + ((dg f c (f - 1 - n) : Nat) : Int)) = vB v (dg f c (f - 1 - n) : Nat) := hV2.B (by omega) (by omega) (by omega)
        have fi := hW.2.2.2.2 ((dg f c (f - 1 - n) : Nat) : Int) (by omega) (by omega)
        refine x_aload_n 55 0 dX7_ordered_54 rfl rfl (by decide) rfl ?_
        refine x_getR 58 0 51 dX7_ordered_55 rfl fX7_7 rfl rfl rfl ?_
        refine x_bipush 60 dX7_ordered_58 rfl (by decide) ?_
        refine x_iload 62 6 dX7_ordered_60 rfl (by decide) rfl ?_
        refine x_iadd 63 dX7_ordered_62 rfl ?_
        refine x_iaload 64 dX7_ordered_63 rfl rfl (by omega) (fun g63 => ?_)
        rw [eA]
        refine x_iastore 65 dX7_ordered_64 rfl rfl (by omega) (by omega) ?_
        refine x_aload_n 66 0 dX7_ordered_65 rfl rfl (by decide) rfl ?_
        refine x_getR 69 0 51 dX7_ordered_66 rfl fX7_7 rfl rfl rfl ?_
        refine x_sipush 72 dX7_ordered_69 rfl (by decide) ?_
        refine x_iload 74 5 dX7_ordered_72 rfl (by decide) rfl ?_
        refine x_iadd 75 dX7_ordered_74 rfl ?_
        refine x_aload_n 76 0 dX7_ordered_75 rfl rfl (by decide) rfl ?_
        refine x_getR 79 0 51 dX7_ordered_76 rfl fX7_7 rfl rfl rfl ?_
        refine x_bipush 81 dX7_ordered_79 rfl (by decide) ?_
        refine x_iload 83 6 dX7_ordered_81 rfl (by decide) rfl ?_
        refine x_iadd 84 dX7_ordered_83 rfl ?_
        refine x_iaload 85 dX7_ordered_84 rfl rfl (by omega) (fun g84 => ?_)
        rw [up2_k _ _ _ (by omega), eB]
        refine x_iastore 86 dX7_ordered_85 rfl rfl (by omega) (by omega) ?_
        refine x_iload 88 4 dX7_ordered_86 rfl (by decide) rfl ?_
        refine x_iload_n 89 2 dX7_ordered_88 rfl rfl (by decide) rfl ?_
        refine x_idiv 90 dX7_ordered_89 rfl (⟨Int.natCast_nonneg _, Int.le_trans (Int.ofNat_le.mpr hcd) (by omega), by omega, by omega⟩) ?_
        rw [show ((c / f ^ n : Nat) : Int) / (f : Int) = ((c / f ^ (n + 1) : Nat) : Int) by rw [Nat.pow_succ, ← Nat.div_div_eq_div_mul]; rfl]
        refine x_istore 92 4 _ dX7_ordered_90 rfl (by decide) rfl rfl ?_
        refine x_iinc 95 _ dX7_ordered_92 rfl (by decide) rfl rfl rfl ?_
        refine x_goto 26 dX7_ordered_95 (by decide) ?_
        have hRn : RP (up2 (up2 M2 51 (230 + ((f : Int) - 1 - n)) (vA v (dg f c (f - 1 - n) : Nat))) 51 (240 + ((f : Int) - 1 - n)) (vB v (dg f c (f - 1 - n) : Nat))) 210 (prD v (dg f c) ((f : Int) - 1 - n)) := by
          refine prD_s (by rw [show (f : Int) - 1 - n + 1 = (f : Int) - n by omega]; exact hR2) (by omega) ?_ ?_ (by omega) (by omega)
          · rw [show ((f : Int) - 1 - n).toNat = f - 1 - n by omega]
          · rw [show ((f : Int) - 1 - n).toNat = f - 1 - n by omega]
        have e0 := ih (n + 1) _ (some (iv (dg f c (f - 1 - n) : Nat))) (by omega) (by omega) (by rw [show (f : Int) - ((n + 1 : Nat) : Int) = (f : Int) - 1 - n by omega]; exact hRn) ((hF2.up1 _ _ (by omega)).up1 _ _ (by omega))
        rw [show (f : Int) - 1 - ((n + 1 : Nat) : Int) = (f : Int) - 1 - n + -1 by omega] at e0
        exact e0
  refine x_aload_n 1 0 dX7_ordered_0 rfl rfl (by decide) rfl ?_
  refine x_getR 4 0 51 dX7_ordered_1 rfl fX7_7 rfl rfl rfl ?_
  refine x_bipush 6 dX7_ordered_4 rfl (by decide) ?_
  refine x_iaload 7 dX7_ordered_6 rfl rfl (by omega) (fun g6 => ?_)
  rw [e40, hvf]
  refine x_istore_n 8 2 _ dX7_ordered_7 rfl rfl (by decide) rfl rfl ?_
  refine x_iconst 9 dX7_ordered_8 rfl ?_
  refine x_istore_n 10 3 _ dX7_ordered_9 rfl rfl (by decide) rfl rfl ?_
  refine x_iload_n 11 1 dX7_ordered_10 rfl rfl (by decide) rfl ?_
  refine x_istore 13 4 _ dX7_ordered_11 rfl (by decide) rfl rfl ?_
  refine x_aload_n 14 0 dX7_ordered_13 rfl rfl (by decide) rfl ?_
  refine x_iconst 15 dX7_ordered_14 rfl ?_
  refine x_sipush 18 dX7_ordered_15 rfl (by decide) ?_
  refine x_vv 21 [_, _] (m_copies 0 210 (by omega) (by omega) (by omega)) mX7_copies kX7_195 dX7_ordered_18 rfl rfl ⟨by decide, rfl⟩ rfl rfl (Nat.le_of_ble_eq_true rfl) (by decide) (fun M1 q1 => ?_)
  refine x_iload_n 22 2 dX7_ordered_21 rfl rfl (by decide) rfl ?_
  refine x_iconst 23 dX7_ordered_22 rfl ?_
  refine x_isub 24 dX7_ordered_23 rfl ?_
  refine x_istore 26 5 _ dX7_ordered_24 rfl (by decide) rfl rfl ?_
  have e0 := loop (f + 1) 0 _ none (by omega) (by omega) (prD_0 (hR.copy q1) (by omega)) q1.fp
  rw [Nat.pow_zero, Nat.div_one, show (f : Int) - 1 - ((0 : Nat) : Int) = (f : Int) - 1 by omega] at e0
  exact e0

/-- the best so far, as the reference keeps it -/
def OI (v : LV) (f r best : Nat) (least : Int) : Prop := (r = 0 ∧ best = 0 ∧ least = 1000000) ∨ (0 < r ∧ least = (ordB v r).2 ∧ ∀ p, p < f → dg f best p = rowF f (ordB v r).1.toNat p)
theorem OI_s {v : LV} {f r best c : Nat} {least y : Int} (h : OI v f r best least) (hy : 0 ≤ y ∧ y ≤ 495) (hyo : y = owed (goV (permV v (rowF (vf v).toNat r)) (vf v).toNat)) (hd : ∀ p, p < f → dg f c p = rowF f r p) : OI v f (r + 1) (if y < least then c else best) (if y < least then y else least) := by
  have hs : ordB v (r + 1) = off (ordB v r) r y := by rw [hyo]; rfl
  right
  refine ⟨by omega, ?_, ?_⟩
  · rw [hs]
    unfold off
    rcases h with ⟨h0, -, hl⟩ | ⟨h0, hl, -⟩
    · subst h0
      rw [if_pos (by omega), if_pos (by show y < 496; omega)]
    · rw [hl]
      split <;> rfl
  · rw [hs]
    unfold off
    rcases h with ⟨h0, -, hl⟩ | ⟨h0, hl, hb⟩
    · subst h0
      rw [if_pos (by omega), if_pos (by show y < 496; omega)]
      exact hd
    · rw [hl]
      split
      · rw [show ((r : Int), y).1.toNat = r by show (r : Int).toNat = r; omega]; exact hd
      · exact hb

set_option maxHeartbeats 4000000 in
theorem r_order {g : GG} {M : Mem} {s : ST} (hC : Mdl M s) (hO : SOK s) (w : Int) (hw : -2147483648 ≤ w ∧ w ≤ 2147483647) : CI g tX7_order 5 [rv g 50, iv w] M (PM M (aOrder s w) s) := by
  refine Con.of [some (rv g 50), some (iv w), none, none, none, none, none, none] (by decide +kernel) rfl (Nat.le_of_ble_eq_true rfl) ?_
  obtain ⟨hV, ⟨hk0, hk1, hi0, hi1⟩, ⟨hT1, hT2⟩, ⟨hS1, hS2⟩, hZ, hN, hF, hKs, hMC⟩ := id hC
  obtain ⟨oV, oW, oI0, oI1, oT, oTb, oS, oSb, oZ⟩ := id hO
  have e1 : M 50 1 = vn (sV s) := hV.2.1
  have e40 : M 51 40 = vf (sV s) := hV.F (by omega)
  have e41 : M 51 41 = vw (sV s) := hV.W (by omega)
  have o1 := oV.1
  have o2 := oV.2.1
  have o3 := oV.2.2.1
  refine x_iload_n 1 1 dX7_order_0 rfl rfl (by decide) rfl ?_
  refine x_if_eq 20 4 dX7_order_1 (by decide) rfl (by omega) (fun h1 => ?_) (fun h1 => ?_)
  · refine x_aload_n 21 0 dX7_order_20 rfl rfl (by decide) rfl ?_
    refine x_getR 24 0 51 dX7_order_21 rfl fX7_7 rfl rfl rfl ?_
    refine x_bipush 26 dX7_order_24 rfl (by decide) ?_
    refine x_iaload 27 dX7_order_26 rfl rfl (by omega) (fun g26 => ?_)
    rw [e40]
    refine x_istore_n 28 2 _ dX7_order_27 rfl rfl (by decide) rfl rfl ?_
    refine x_iload_n 29 2 dX7_order_28 rfl rfl (by decide) rfl ?_
    refine x_iconst 30 dX7_order_29 rfl ?_
    refine x_icmp_gt 45 33 dX7_order_30 (by decide) rfl (by omega) (fun h30 => ?_) (fun h30 => ?_)
    · refine x_bipush 47 dX7_order_45 rfl (by decide) ?_
      refine x_iret dX7_order_47 rfl ⟨rfl, Nat.le_refl _⟩ (qi_i ?_)
      refine PM.same hC ?_
      unfold aOrder; rw [if_pos (by omega), if_pos (by omega)]
    · refine x_iload_n 34 2 dX7_order_33 rfl rfl (by decide) rfl ?_
      refine x_if_le 48 37 dX7_order_34 (by decide) rfl (by omega) (fun h34 => ?_) (fun h34 => ?_)
      · obtain ⟨f, hvf⟩ := Int.eq_ofNat_of_zero_le (show 0 ≤ vf (sV s) by omega)
        rw [hvf]
        have hf5 : f ≤ 5 := by omega
        have hft : (vf (sV s)).toNat = f := by omega
        have fo := fixN_or oV
        have hno : ¬ (5 < vf (sV s) ∨ 0 < fixN (sV s)) := by omega
        have hff := pw5 f (by omega) f (Nat.le_refl _)
        have fin : ∀ (M4 : Mem) (best : Nat) (least : Int) (j6 j7 : Option Value), SM M M4 → best ≤ 3125 → (-2147483648 ≤ least ∧ least ≤ 2147483647) → least = (ordB (sV s) (facN f)).2 → (∀ p, p < f → dg f best p = rowF f (ordB (sV s) (facN f)).1.toNat p) → X g tX7_order (kk0 5) 142 [some (rv g 50), some (iv w), some (iv f), some (iv (f ^ f : Nat)), some (iv least), some (iv best), j6, j7] [] (S0, R0, M4) (QI (PM M (aOrder s w) s)) := by
          intro M4 best least j6 j7 hS4 hbb hlb hl hd
          have loop : ∀ (m n : Nat) (M2 : Mem), f - n < m → n ≤ f → SM M M2 → (∀ p : Nat, f - n ≤ p → p < f → M2 56 p = (dg f best p : Nat)) → X g tX7_order (kk0 5) 147 [some (rv g 50), some (iv w), some (iv f), some (iv (f ^ f : Nat)), some (iv least), some (iv (best / f ^ n : Nat)), some (iv ((f : Int) - 1 - n)), j7] [] (S0, R0, M2) (QI (PM M (aOrder s w) s)) := by
            intro m
            induction m with
            | zero => intro n M2 k1 k2; omega
            | succ m ih =>
              intro n M2 k1 k2 hSM hrow
              have hcd : best / f ^ n ≤ best := Nat.div_le_self _ _
              refine x_iload 149 6 dX7_order_147 rfl (by decide) rfl ?_
              refine x_if_lt 175 152 dX7_order_149 (by decide) rfl (by omega) (fun h149 => ?_) (fun h149 => ?_)
              · have en : n = f := by omega
                subst en
                refine x_iload_n 176 1 dX7_order_175 rfl rfl (by decide) rfl ?_
                refine x_if_ne 184 179 dX7_order_176 (by decide) rfl (by omega) (fun h176 => ?_) (fun h176 => ?_)
                · refine x_iload_n 185 1 dX7_order_184 rfl rfl (by decide) rfl ?_
                  refine x_bipush 187 dX7_order_185 rfl (by decide) ?_
                  refine x_isub 188 dX7_order_187 rfl ?_
                  refine x_iload_n 189 2 dX7_order_188 rfl rfl (by decide) rfl ?_
                  refine x_icmp_ge 204 192 dX7_order_189 (by decide) rfl (by omega) (fun h189 => ?_) (fun h189 => ?_)
                  · refine x_bipush 206 dX7_order_204 rfl (by decide) ?_
                    refine x_iret dX7_order_206 rfl ⟨rfl, Nat.le_refl _⟩ (qi_i ?_)
                    refine PM.scr hC ?_ hSM
                    unfold aOrder; rw [if_pos (by omega), if_neg hno, hft, hvf]
                    first
                      | (rw [if_pos (by omega)]; exact hl)
                      | (rw [if_neg (by omega), if_pos (by omega)]; done)
                      | (rw [if_neg (by omega), if_neg (by omega), hpl, Int.toNat_natCast, hd pl (by omega)])
                  · obtain ⟨pl, hpl⟩ := Int.eq_ofNat_of_zero_le (show 0 ≤ w - 10 by omega)
                    refine x_aload_n 193 0 dX7_order_192 rfl rfl (by decide) rfl ?_
                    refine x_getR 196 20 56 dX7_order_193 rfl fX7_29 rfl rfl rfl ?_
                    refine x_iload_n 197 1 dX7_order_196 rfl rfl (by decide) rfl ?_
                    refine x_bipush 199 dX7_order_197 rfl (by decide) ?_
                    refine x_isub 200 dX7_order_199 rfl ?_
                    rw [hpl]
                    refine x_iaload 201 dX7_order_200 rfl rfl (by omega) (fun g200 => ?_)
                    rw [hrow pl (by omega) (by omega)]
                    refine x_goto 206 dX7_order_201 (by decide) ?_
                    refine x_iret dX7_order_206 rfl ⟨rfl, Nat.le_refl _⟩ (qi_i ?_)
                    refine PM.scr hC ?_ hSM
                    unfold aOrder; rw [if_pos (by omega), if_neg hno, hft, hvf]
                    first
                      | (rw [if_pos (by omega)]; exact hl)
                      | (rw [if_neg (by omega), if_pos (by omega)]; done)
                      | (rw [if_neg (by omega), if_neg (by omega), hpl, Int.toNat_natCast, hd pl (by omega)])
                · refine x_iload 181 4 dX7_order_179 rfl (by decide) rfl ?_
                  refine x_goto 206 dX7_order_181 (by decide) ?_
                  refine x_iret dX7_order_206 rfl ⟨rfl, Nat.le_refl _⟩ (qi_i ?_)
                  refine PM.scr hC ?_ hSM
                  unfold aOrder; rw [if_pos (by omega), if_neg hno, hft, hvf]
                  first
                    | (rw [if_pos (by omega)]; exact hl)
                    | (rw [if_neg (by omega), if_pos (by omega)]; done)
                    | (rw [if_neg (by omega), if_neg (by omega), hpl, Int.toNat_natCast, hd pl (by omega)])
              · have hlt : n < f := by omega
                have hdg : dg f best (f - 1 - n) = best / f ^ n % f := by (unfold dg; rw [show f - 1 - (f - 1 - n) = n by omega])
                have hdl : dg f best (f - 1 - n) < f := dg_lt (by omega)
                refine x_aload_n 153 0 dX7_order_152 rfl rfl (by decide) rfl ?_
                refine x_getR 156 20 56 dX7_order_153 rfl fX7_29 rfl rfl rfl ?_
                refine x_iload 158 6 dX7_order_156 rfl (by decide) rfl ?_
                refine x_iload 160 5 dX7_order_158 rfl (by decide) rfl ?_
                refine x_iload_n 161 2 dX7_order_160 rfl rfl (by decide) rfl ?_
                refine x_irem 162 dX7_order_161 rfl (⟨Int.natCast_nonneg _, Int.le_trans (Int.ofNat_le.mpr hcd) (by omega), by omega, by omega⟩) ?_
                rw [show ((best / f ^ n : Nat) : Int) % (f : Int) = ((dg f best (f - 1 - n) : Nat) : Int) by rw [hdg]; rfl]
                refine x_iastore 163 dX7_order_162 rfl rfl (by omega) (by omega) ?_
                refine x_iload 165 5 dX7_order_163 rfl (by decide) rfl ?_
                refine x_iload_n 166 2 dX7_order_165 rfl rfl (by decide) rfl ?_
                refine x_idiv 167 dX7_order_166 rfl (⟨Int.natCast_nonneg _, Int.le_trans (Int.ofNat_le.mpr hcd) (by omega), by omega, by omega⟩) ?_
                rw [show ((best / f ^ n : Nat) : Int) / (f : Int) = ((best / f ^ (n + 1) : Nat) : Int) by rw [Nat.pow_succ, ← Nat.div_div_eq_div_mul]; rfl]
                refine x_istore 169 5 _ dX7_order_167 rfl (by decide) rfl rfl ?_
                refine x_iinc 172 _ dX7_order_169 rfl (by decide) rfl rfl rfl ?_
                refine x_goto 147 dX7_order_172 (by decide) ?_
                have e0 := ih (n + 1) (up2 M2 56 ((f : Int) - 1 - n) (dg f best (f - 1 - n) : Nat)) (by omega) (by omega) (hSM.upA 56 _ _ (by omega)) (fun p h1 h2 => by
                  rw [up2_i]
                  by_cases e : p = f - 1 - n
                  · rw [if_pos (by omega), e]
                  · rw [if_neg (by omega)]; exact hrow p (by omega) h2)
                rw [show (f : Int) - 1 - ((n + 1 : Nat) : Int) = (f : Int) - 1 - n + -1 by omega] at e0
                exact e0
          refine x_iload_n 143 2 dX7_order_142 rfl rfl (by decide) rfl ?_
          refine x_iconst 144 dX7_order_143 rfl ?_
          refine x_isub 145 dX7_order_144 rfl ?_
          refine x_istore 147 6 _ dX7_order_145 rfl (by decide) rfl rfl ?_
          have e0 := loop (f + 1) 0 M4 (by omega) (by omega) hS4 (fun p h1 h2 => by omega)
          rw [Nat.pow_zero, Nat.div_one, show (f : Int) - 1 - ((0 : Nat) : Int) = (f : Int) - 1 by omega] at e0
          exact e0
        have main : ∀ (m c r best : Nat) (least : Int) (M2 : Mem) (j7 : Option Value), f ^ f - c < m → c ≤ f ^ f → SM M M2 → chk f (f ^ f - c) c r = true → best ≤ 3125 → (0 ≤ least ∧ least ≤ 1000000) → OI (sV s) f r best least → X g tX7_order (kk0 5) 79 [some (rv g 50), some (iv w), some (iv f), some (iv (f ^ f : Nat)), some (iv least), some (iv best), some (iv c), j7] [] (S0, R0, M2) (QI (PM M (aOrder s w) s)) := by
          intro m
          induction m with
          | zero => intro c r best least M2 j7 k1 k2; omega
          | succ m ih =>
            intro c r best least M2 j7 k1 k2 hSM hck hbb hlb hOI
            have hV2 := hV.sm hSM (by omega)
            have f19 : M2 50 19 = -4 := (hSM.2.1 19 (by omega)).trans hKs
            refine x_iload 81 6 dX7_order_79 rfl (by decide) rfl ?_
            refine x_iload_n 82 3 dX7_order_81 rfl rfl (by decide) rfl ?_
            refine x_icmp_ge 142 85 dX7_order_82 (by decide) rfl (by omega) (fun h82 => ?_) (fun h82 => ?_)
            · have ec : c = f ^ f := by omega
              subst ec
              rw [Nat.sub_self] at hck
              have er : r = facN f := Nat.eq_of_beq_eq_true hck
              subst er
              rcases hOI with ⟨h0, _, _⟩ | ⟨_, h1, h2⟩
              · have := (facN_b f (by omega)).1
                omega
              · exact fin _ _ _ _ _ hSM hbb (by omega) h1 h2
            · have hck2 : chk f (f ^ f - (c + 1) + 1) c r = true := by (rw [show f ^ f - (c + 1) + 1 = f ^ f - c by omega]; exact hck)
              refine x_aload_n 86 0 dX7_order_85 rfl rfl (by decide) rfl ?_
              refine x_iload 88 6 dX7_order_86 rfl (by decide) rfl ?_
              refine x_vi 91 [_] (m_ordered hV2 oV f c hvf hf5 (by omega)) mX7_ordered kX7_214 dX7_order_88 rfl rfl ⟨by decide, rfl⟩ rfl rfl (Nat.le_of_ble_eq_true rfl) (by decide) (fun r3 M3 q3 => ?_)
              obtain ⟨rfl, hR3, hF3⟩ := q3
              have hS3 := hSM.tr (SM.of hF3 (by omega))
              refine x_ifeq_b 136 94 dX7_order_91 (by decide) rfl (fun h91 => ?_) (fun h91 => ?_)
              · refine x_iinc 139 _ dX7_order_136 rfl (by decide) rfl rfl rfl ?_
                refine x_goto 79 dX7_order_139 (by decide) ?_
                first
                  | exact ih (c + 1) (r + 1) _ _ _ _ (by omega) (by omega) (hS3.tr (SM.of gF (by omega))) hcy.2.2 (by split <;> omega) (by split <;> omega) (OI_s hOI ob (by rw [hft]) hcy.2.1)
                  | exact ih (c + 1) r best least _ _ (by omega) (by omega) hS3 (chk_n hck2 (by assumption)) hbb hlb hOI
              · have hcy := chk_y hck2 (by assumption)
                have hRp : RP M3 210 (permV (sV s) (rowF f r)) := prD_e hR3 (Int.le_refl _) (fun q hq => hcy.2.1 q (by omega))
                have hwf : WF (permV (sV s) (rowF f r)) := permV_WF oV (fun p hp => by rw [hft] at hp ⊢; exact rowF_lt f (by omega) r hcy.1 p hp)
                refine x_aload_n 95 0 dX7_order_94 rfl rfl (by decide) rfl ?_
                refine x_sipush 98 dX7_order_95 rfl (by decide) ?_
                refine x_iload_n 99 2 dX7_order_98 rfl rfl (by decide) rfl ?_
                refine x_vi 102 [_, _] (m_weeksGo (Or.inr rfl) hRp hwf f (by omega) (by show vw (sV s) ≤ 10000; omega) ((hS3.2.1 19 (by omega)).trans hKs)) mX7_weeksGo kX7_201 dX7_order_99 rfl rfl ⟨by decide, rfl⟩ rfl rfl (Nat.le_of_ble_eq_true rfl) (by decide) (fun r4 M4 q4 => ?_)
                obtain ⟨rfl, -, -, -, -, gF⟩ := q4
                have ob := owed_bd (goV_WF hwf f)
                refine x_istore 104 7 _ dX7_order_102 rfl (by decide) rfl rfl ?_
                refine x_cut 118 (fun z => z = ((if owed (goV (permV (sV s) (rowF f r)) f) < least then c else best : Nat) : Int)) (fun tail104 => ?_) (fun z104 hz104 => ?_)
                · refine x_iload 106 7 dX7_order_104 rfl (by decide) rfl ?_
                  refine x_iload 108 4 dX7_order_106 rfl (by decide) rfl ?_
                  refine x_icmp_ge 116 111 dX7_order_108 (by decide) rfl (by omega) (fun h108 => ?_) (fun h108 => ?_)
                  · refine x_iload 118 5 dX7_order_116 rfl (by decide) rfl ?_
                    exact tail104 _ (by split <;> omega)
                  · refine x_iload 113 6 dX7_order_111 rfl (by decide) rfl ?_
                    refine x_goto 118 dX7_order_113 (by decide) ?_
                    exact tail104 _ (by split <;> omega)
                · subst z104
                  refine x_istore 120 5 _ dX7_order_118 rfl (by decide) rfl rfl ?_
                  refine x_cut 134 (fun z => z = (if owed (goV (permV (sV s) (rowF f r)) f) < least then owed (goV (permV (sV s) (rowF f r)) f) else least)) (fun tail120 => ?_) (fun z120 hz120 => ?_)
                  · refine x_iload 122 7 dX7_order_120 rfl (by decide) rfl ?_
                    refine x_iload 124 4 dX7_order_122 rfl (by decide) rfl ?_
                    refine x_icmp_ge 132 127 dX7_order_124 (by decide) rfl (by omega) (fun h124 => ?_) (fun h124 => ?_)
                    · refine x_iload 134 4 dX7_order_132 rfl (by decide) rfl ?_
                      exact tail120 _ (by split <;> omega)
                    · refine x_iload 129 7 dX7_order_127 rfl (by decide) rfl ?_
                      refine x_goto 134 dX7_order_129 (by decide) ?_
                      exact tail120 _ (by split <;> omega)
                  · subst z120
                    refine x_istore 136 4 _ dX7_order_134 rfl (by decide) rfl rfl ?_
                    refine x_iinc 139 _ dX7_order_136 rfl (by decide) rfl rfl rfl ?_
                    refine x_goto 79 dX7_order_139 (by decide) ?_
                    first
                      | exact ih (c + 1) (r + 1) _ _ _ _ (by omega) (by omega) (hS3.tr (SM.of gF (by omega))) hcy.2.2 (by split <;> omega) (by split <;> omega) (OI_s hOI ob (by rw [hft]) hcy.2.1)
                      | exact ih (c + 1) r best least _ _ (by omega) (by omega) hS3 (chk_n hck2 (by assumption)) hbb hlb hOI
        have pwl : ∀ (m k : Nat) , f - k < m → k ≤ f → X g tX7_order (kk0 5) 53 [some (rv g 50), some (iv w), some (iv f), some (iv (f ^ k : Nat)), some (iv k), none, none, none] [] (S0, R0, M) (QI (PM M (aOrder s w) s)) := by
          intro m
          induction m with
          | zero => intro k k1 k2; omega
          | succ m ih =>
            intro k k1 k2
            have hpk := pw5 f (by omega) k k2
            refine x_iload 55 4 dX7_order_53 rfl (by decide) rfl ?_
            refine x_iload_n 56 2 dX7_order_55 rfl rfl (by decide) rfl ?_
            refine x_icmp_ge 69 59 dX7_order_56 (by decide) rfl (by omega) (fun h56 => ?_) (fun h56 => ?_)
            · refine x_ldc 71 1000000 qX7_213 dX7_order_69 rfl ?_
              refine x_istore 73 4 _ dX7_order_71 rfl (by decide) rfl rfl ?_
              refine x_iconst 74 dX7_order_73 rfl ?_
              refine x_istore 76 5 _ dX7_order_74 rfl (by decide) rfl rfl ?_
              refine x_iconst 77 dX7_order_76 rfl ?_
              refine x_istore 79 6 _ dX7_order_77 rfl (by decide) rfl rfl ?_
              have ek : k = f := by omega
              subst ek
              exact main (k ^ k + 1) 0 0 0 1000000 M _ (by omega) (by omega) (SM.rf M) (chk_ok k (by omega)) (by omega) (by omega) (Or.inl ⟨rfl, rfl, rfl⟩)
            · refine x_iload_n 60 3 dX7_order_59 rfl rfl (by decide) rfl ?_
              refine x_iload_n 61 2 dX7_order_60 rfl rfl (by decide) rfl ?_
              refine x_imul 62 dX7_order_61 rfl ?_
              refine x_istore_n 63 3 _ dX7_order_62 rfl rfl (by decide) rfl rfl ?_
              refine x_iinc 66 _ dX7_order_63 rfl (by decide) rfl rfl rfl ?_
              refine x_goto 53 dX7_order_66 (by decide) ?_
              have e0 := ih (k + 1) (by omega) (by omega)
              rw [Nat.pow_succ] at e0
              exact e0
        refine x_iconst 49 dX7_order_48 rfl ?_
        refine x_istore_n 50 3 _ dX7_order_49 rfl rfl (by decide) rfl rfl ?_
        refine x_iconst 51 dX7_order_50 rfl ?_
        refine x_istore 53 4 _ dX7_order_51 rfl (by decide) rfl rfl ?_
        have e0 := pwl (f + 1) 0 (by omega) (by omega)
        rw [Nat.pow_zero] at e0
        exact e0
      · refine x_aload_n 38 0 dX7_order_37 rfl rfl (by decide) rfl ?_
        refine x_iconst 39 dX7_order_38 rfl ?_
        refine x_vp 42 [_] (m_placeOn (show 0 ≤ (0 : Int) ∧ (0 : Int) ≤ 210 by omega) hV oV) mX7_placeOn kX7_151 dX7_order_39 rfl rfl ⟨by decide, rfl⟩ rfl rfl (Nat.le_of_ble_eq_true rfl) (by decide) ?_
        have fo := fixN_or oV
        refine x_if_eq 48 45 dX7_order_42 (by decide) rfl (by omega) (fun h42 => ?_) (fun h42 => ?_)
        · obtain ⟨f, hvf⟩ := Int.eq_ofNat_of_zero_le (show 0 ≤ vf (sV s) by omega)
          rw [hvf]
          have hf5 : f ≤ 5 := by omega
          have hft : (vf (sV s)).toNat = f := by omega
          have fo := fixN_or oV
          have hno : ¬ (5 < vf (sV s) ∨ 0 < fixN (sV s)) := by omega
          have hff := pw5 f (by omega) f (Nat.le_refl _)
          have fin : ∀ (M4 : Mem) (best : Nat) (least : Int) (j6 j7 : Option Value), SM M M4 → best ≤ 3125 → (-2147483648 ≤ least ∧ least ≤ 2147483647) → least = (ordB (sV s) (facN f)).2 → (∀ p, p < f → dg f best p = rowF f (ordB (sV s) (facN f)).1.toNat p) → X g tX7_order (kk0 5) 142 [some (rv g 50), some (iv w), some (iv f), some (iv (f ^ f : Nat)), some (iv least), some (iv best), j6, j7] [] (S0, R0, M4) (QI (PM M (aOrder s w) s)) := by
            intro M4 best least j6 j7 hS4 hbb hlb hl hd
            have loop : ∀ (m n : Nat) (M2 : Mem), f - n < m → n ≤ f → SM M M2 → (∀ p : Nat, f - n ≤ p → p < f → M2 56 p = (dg f best p : Nat)) → X g tX7_order (kk0 5) 147 [some (rv g 50), some (iv w), some (iv f), some (iv (f ^ f : Nat)), some (iv least), some (iv (best / f ^ n : Nat)), some (iv ((f : Int) - 1 - n)), j7] [] (S0, R0, M2) (QI (PM M (aOrder s w) s)) := by
              intro m
              induction m with
              | zero => intro n M2 k1 k2; omega
              | succ m ih =>
                intro n M2 k1 k2 hSM hrow
                have hcd : best / f ^ n ≤ best := Nat.div_le_self _ _
                refine x_iload 149 6 dX7_order_147 rfl (by decide) rfl ?_
                refine x_if_lt 175 152 dX7_order_149 (by decide) rfl (by omega) (fun h149 => ?_) (fun h149 => ?_)
                · have en : n = f := by omega
                  subst en
                  refine x_iload_n 176 1 dX7_order_175 rfl rfl (by decide) rfl ?_
                  refine x_if_ne 184 179 dX7_order_176 (by decide) rfl (by omega) (fun h176 => ?_) (fun h176 => ?_)
                  · refine x_iload_n 185 1 dX7_order_184 rfl rfl (by decide) rfl ?_
                    refine x_bipush 187 dX7_order_185 rfl (by decide) ?_
                    refine x_isub 188 dX7_order_187 rfl ?_
                    refine x_iload_n 189 2 dX7_order_188 rfl rfl (by decide) rfl ?_
                    refine x_icmp_ge 204 192 dX7_order_189 (by decide) rfl (by omega) (fun h189 => ?_) (fun h189 => ?_)
                    · refine x_bipush 206 dX7_order_204 rfl (by decide) ?_
                      refine x_iret dX7_order_206 rfl ⟨rfl, Nat.le_refl _⟩ (qi_i ?_)
                      refine PM.scr hC ?_ hSM
                      unfold aOrder; rw [if_pos (by omega), if_neg hno, hft, hvf]
                      first
                        | (rw [if_pos (by omega)]; exact hl)
                        | (rw [if_neg (by omega), if_pos (by omega)]; done)
                        | (rw [if_neg (by omega), if_neg (by omega), hpl, Int.toNat_natCast, hd pl (by omega)])
                    · obtain ⟨pl, hpl⟩ := Int.eq_ofNat_of_zero_le (show 0 ≤ w - 10 by omega)
                      refine x_aload_n 193 0 dX7_order_192 rfl rfl (by decide) rfl ?_
                      refine x_getR 196 20 56 dX7_order_193 rfl fX7_29 rfl rfl rfl ?_
                      refine x_iload_n 197 1 dX7_order_196 rfl rfl (by decide) rfl ?_
                      refine x_bipush 199 dX7_order_197 rfl (by decide) ?_
                      refine x_isub 200 dX7_order_199 rfl ?_
                      rw [hpl]
                      refine x_iaload 201 dX7_order_200 rfl rfl (by omega) (fun g200 => ?_)
                      rw [hrow pl (by omega) (by omega)]
                      refine x_goto 206 dX7_order_201 (by decide) ?_
                      refine x_iret dX7_order_206 rfl ⟨rfl, Nat.le_refl _⟩ (qi_i ?_)
                      refine PM.scr hC ?_ hSM
                      unfold aOrder; rw [if_pos (by omega), if_neg hno, hft, hvf]
                      first
                        | (rw [if_pos (by omega)]; exact hl)
                        | (rw [if_neg (by omega), if_pos (by omega)]; done)
                        | (rw [if_neg (by omega), if_neg (by omega), hpl, Int.toNat_natCast, hd pl (by omega)])
                  · refine x_iload 181 4 dX7_order_179 rfl (by decide) rfl ?_
                    refine x_goto 206 dX7_order_181 (by decide) ?_
                    refine x_iret dX7_order_206 rfl ⟨rfl, Nat.le_refl _⟩ (qi_i ?_)
                    refine PM.scr hC ?_ hSM
                    unfold aOrder; rw [if_pos (by omega), if_neg hno, hft, hvf]
                    first
                      | (rw [if_pos (by omega)]; exact hl)
                      | (rw [if_neg (by omega), if_pos (by omega)]; done)
                      | (rw [if_neg (by omega), if_neg (by omega), hpl, Int.toNat_natCast, hd pl (by omega)])
                · have hlt : n < f := by omega
                  have hdg : dg f best (f - 1 - n) = best / f ^ n % f := by (unfold dg; rw [show f - 1 - (f - 1 - n) = n by omega])
                  have hdl : dg f best (f - 1 - n) < f := dg_lt (by omega)
                  refine x_aload_n 153 0 dX7_order_152 rfl rfl (by decide) rfl ?_
                  refine x_getR 156 20 56 dX7_order_153 rfl fX7_29 rfl rfl rfl ?_
                  refine x_iload 158 6 dX7_order_156 rfl (by decide) rfl ?_
                  refine x_iload 160 5 dX7_order_158 rfl (by decide) rfl ?_
                  refine x_iload_n 161 2 dX7_order_160 rfl rfl (by decide) rfl ?_
                  refine x_irem 162 dX7_order_161 rfl (⟨Int.natCast_nonneg _, Int.le_trans (Int.ofNat_le.mpr hcd) (by omega), by omega, by omega⟩) ?_
                  rw [show ((best / f ^ n : Nat) : Int) % (f : Int) = ((dg f best (f - 1 - n) : Nat) : Int) by rw [hdg]; rfl]
                  refine x_iastore 163 dX7_order_162 rfl rfl (by omega) (by omega) ?_
                  refine x_iload 165 5 dX7_order_163 rfl (by decide) rfl ?_
                  refine x_iload_n 166 2 dX7_order_165 rfl rfl (by decide) rfl ?_
                  refine x_idiv 167 dX7_order_166 rfl (⟨Int.natCast_nonneg _, Int.le_trans (Int.ofNat_le.mpr hcd) (by omega), by omega, by omega⟩) ?_
                  rw [show ((best / f ^ n : Nat) : Int) / (f : Int) = ((best / f ^ (n + 1) : Nat) : Int) by rw [Nat.pow_succ, ← Nat.div_div_eq_div_mul]; rfl]
                  refine x_istore 169 5 _ dX7_order_167 rfl (by decide) rfl rfl ?_
                  refine x_iinc 172 _ dX7_order_169 rfl (by decide) rfl rfl rfl ?_
                  refine x_goto 147 dX7_order_172 (by decide) ?_
                  have e0 := ih (n + 1) (up2 M2 56 ((f : Int) - 1 - n) (dg f best (f - 1 - n) : Nat)) (by omega) (by omega) (hSM.upA 56 _ _ (by omega)) (fun p h1 h2 => by
                    rw [up2_i]
                    by_cases e : p = f - 1 - n
                    · rw [if_pos (by omega), e]
                    · rw [if_neg (by omega)]; exact hrow p (by omega) h2)
                  rw [show (f : Int) - 1 - ((n + 1 : Nat) : Int) = (f : Int) - 1 - n + -1 by omega] at e0
                  exact e0
            refine x_iload_n 143 2 dX7_order_142 rfl rfl (by decide) rfl ?_
            refine x_iconst 144 dX7_order_143 rfl ?_
            refine x_isub 145 dX7_order_144 rfl ?_
            refine x_istore 147 6 _ dX7_order_145 rfl (by decide) rfl rfl ?_
            have e0 := loop (f + 1) 0 M4 (by omega) (by omega) hS4 (fun p h1 h2 => by omega)
            rw [Nat.pow_zero, Nat.div_one, show (f : Int) - 1 - ((0 : Nat) : Int) = (f : Int) - 1 by omega] at e0
            exact e0
          have main : ∀ (m c r best : Nat) (least : Int) (M2 : Mem) (j7 : Option Value), f ^ f - c < m → c ≤ f ^ f → SM M M2 → chk f (f ^ f - c) c r = true → best ≤ 3125 → (0 ≤ least ∧ least ≤ 1000000) → OI (sV s) f r best least → X g tX7_order (kk0 5) 79 [some (rv g 50), some (iv w), some (iv f), some (iv (f ^ f : Nat)), some (iv least), some (iv best), some (iv c), j7] [] (S0, R0, M2) (QI (PM M (aOrder s w) s)) := by
            intro m
            induction m with
            | zero => intro c r best least M2 j7 k1 k2; omega
            | succ m ih =>
              intro c r best least M2 j7 k1 k2 hSM hck hbb hlb hOI
              have hV2 := hV.sm hSM (by omega)
              have f19 : M2 50 19 = -4 := (hSM.2.1 19 (by omega)).trans hKs
              refine x_iload 81 6 dX7_order_79 rfl (by decide) rfl ?_
              refine x_iload_n 82 3 dX7_order_81 rfl rfl (by decide) rfl ?_
              refine x_icmp_ge 142 85 dX7_order_82 (by decide) rfl (by omega) (fun h82 => ?_) (fun h82 => ?_)
              · have ec : c = f ^ f := by omega
                subst ec
                rw [Nat.sub_self] at hck
                have er : r = facN f := Nat.eq_of_beq_eq_true hck
                subst er
                rcases hOI with ⟨h0, _, _⟩ | ⟨_, h1, h2⟩
                · have := (facN_b f (by omega)).1
                  omega
                · exact fin _ _ _ _ _ hSM hbb (by omega) h1 h2
              · have hck2 : chk f (f ^ f - (c + 1) + 1) c r = true := by (rw [show f ^ f - (c + 1) + 1 = f ^ f - c by omega]; exact hck)
                refine x_aload_n 86 0 dX7_order_85 rfl rfl (by decide) rfl ?_
                refine x_iload 88 6 dX7_order_86 rfl (by decide) rfl ?_
                refine x_vi 91 [_] (m_ordered hV2 oV f c hvf hf5 (by omega)) mX7_ordered kX7_214 dX7_order_88 rfl rfl ⟨by decide, rfl⟩ rfl rfl (Nat.le_of_ble_eq_true rfl) (by decide) (fun r3 M3 q3 => ?_)
                obtain ⟨rfl, hR3, hF3⟩ := q3
                have hS3 := hSM.tr (SM.of hF3 (by omega))
                refine x_ifeq_b 136 94 dX7_order_91 (by decide) rfl (fun h91 => ?_) (fun h91 => ?_)
                · refine x_iinc 139 _ dX7_order_136 rfl (by decide) rfl rfl rfl ?_
                  refine x_goto 79 dX7_order_139 (by decide) ?_
                  first
                    | exact ih (c + 1) (r + 1) _ _ _ _ (by omega) (by omega) (hS3.tr (SM.of gF (by omega))) hcy.2.2 (by split <;> omega) (by split <;> omega) (OI_s hOI ob (by rw [hft]) hcy.2.1)
                    | exact ih (c + 1) r best least _ _ (by omega) (by omega) hS3 (chk_n hck2 (by assumption)) hbb hlb hOI
                · have hcy := chk_y hck2 (by assumption)
                  have hRp : RP M3 210 (permV (sV s) (rowF f r)) := prD_e hR3 (Int.le_refl _) (fun q hq => hcy.2.1 q (by omega))
                  have hwf : WF (permV (sV s) (rowF f r)) := permV_WF oV (fun p hp => by rw [hft] at hp ⊢; exact rowF_lt f (by omega) r hcy.1 p hp)
                  refine x_aload_n 95 0 dX7_order_94 rfl rfl (by decide) rfl ?_
                  refine x_sipush 98 dX7_order_95 rfl (by decide) ?_
                  refine x_iload_n 99 2 dX7_order_98 rfl rfl (by decide) rfl ?_
                  refine x_vi 102 [_, _] (m_weeksGo (Or.inr rfl) hRp hwf f (by omega) (by show vw (sV s) ≤ 10000; omega) ((hS3.2.1 19 (by omega)).trans hKs)) mX7_weeksGo kX7_201 dX7_order_99 rfl rfl ⟨by decide, rfl⟩ rfl rfl (Nat.le_of_ble_eq_true rfl) (by decide) (fun r4 M4 q4 => ?_)
                  obtain ⟨rfl, -, -, -, -, gF⟩ := q4
                  have ob := owed_bd (goV_WF hwf f)
                  refine x_istore 104 7 _ dX7_order_102 rfl (by decide) rfl rfl ?_
                  refine x_cut 118 (fun z => z = ((if owed (goV (permV (sV s) (rowF f r)) f) < least then c else best : Nat) : Int)) (fun tail104 => ?_) (fun z104 hz104 => ?_)
                  · refine x_iload 106 7 dX7_order_104 rfl (by decide) rfl ?_
                    refine x_iload 108 4 dX7_order_106 rfl (by decide) rfl ?_
                    refine x_icmp_ge 116 111 dX7_order_108 (by decide) rfl (by omega) (fun h108 => ?_) (fun h108 => ?_)
                    · refine x_iload 118 5 dX7_order_116 rfl (by decide) rfl ?_
                      exact tail104 _ (by split <;> omega)
                    · refine x_iload 113 6 dX7_order_111 rfl (by decide) rfl ?_
                      refine x_goto 118 dX7_order_113 (by decide) ?_
                      exact tail104 _ (by split <;> omega)
                  · subst z104
                    refine x_istore 120 5 _ dX7_order_118 rfl (by decide) rfl rfl ?_
                    refine x_cut 134 (fun z => z = (if owed (goV (permV (sV s) (rowF f r)) f) < least then owed (goV (permV (sV s) (rowF f r)) f) else least)) (fun tail120 => ?_) (fun z120 hz120 => ?_)
                    · refine x_iload 122 7 dX7_order_120 rfl (by decide) rfl ?_
                      refine x_iload 124 4 dX7_order_122 rfl (by decide) rfl ?_
                      refine x_icmp_ge 132 127 dX7_order_124 (by decide) rfl (by omega) (fun h124 => ?_) (fun h124 => ?_)
                      · refine x_iload 134 4 dX7_order_132 rfl (by decide) rfl ?_
                        exact tail120 _ (by split <;> omega)
                      · refine x_iload 129 7 dX7_order_127 rfl (by decide) rfl ?_
                        refine x_goto 134 dX7_order_129 (by decide) ?_
                        exact tail120 _ (by split <;> omega)
                    · subst z120
                      refine x_istore 136 4 _ dX7_order_134 rfl (by decide) rfl rfl ?_
                      refine x_iinc 139 _ dX7_order_136 rfl (by decide) rfl rfl rfl ?_
                      refine x_goto 79 dX7_order_139 (by decide) ?_
                      first
                        | exact ih (c + 1) (r + 1) _ _ _ _ (by omega) (by omega) (hS3.tr (SM.of gF (by omega))) hcy.2.2 (by split <;> omega) (by split <;> omega) (OI_s hOI ob (by rw [hft]) hcy.2.1)
                        | exact ih (c + 1) r best least _ _ (by omega) (by omega) hS3 (chk_n hck2 (by assumption)) hbb hlb hOI
          have pwl : ∀ (m k : Nat) , f - k < m → k ≤ f → X g tX7_order (kk0 5) 53 [some (rv g 50), some (iv w), some (iv f), some (iv (f ^ k : Nat)), some (iv k), none, none, none] [] (S0, R0, M) (QI (PM M (aOrder s w) s)) := by
            intro m
            induction m with
            | zero => intro k k1 k2; omega
            | succ m ih =>
              intro k k1 k2
              have hpk := pw5 f (by omega) k k2
              refine x_iload 55 4 dX7_order_53 rfl (by decide) rfl ?_
              refine x_iload_n 56 2 dX7_order_55 rfl rfl (by decide) rfl ?_
              refine x_icmp_ge 69 59 dX7_order_56 (by decide) rfl (by omega) (fun h56 => ?_) (fun h56 => ?_)
              · refine x_ldc 71 1000000 qX7_213 dX7_order_69 rfl ?_
                refine x_istore 73 4 _ dX7_order_71 rfl (by decide) rfl rfl ?_
                refine x_iconst 74 dX7_order_73 rfl ?_
                refine x_istore 76 5 _ dX7_order_74 rfl (by decide) rfl rfl ?_
                refine x_iconst 77 dX7_order_76 rfl ?_
                refine x_istore 79 6 _ dX7_order_77 rfl (by decide) rfl rfl ?_
                have ek : k = f := by omega
                subst ek
                exact main (k ^ k + 1) 0 0 0 1000000 M _ (by omega) (by omega) (SM.rf M) (chk_ok k (by omega)) (by omega) (by omega) (Or.inl ⟨rfl, rfl, rfl⟩)
              · refine x_iload_n 60 3 dX7_order_59 rfl rfl (by decide) rfl ?_
                refine x_iload_n 61 2 dX7_order_60 rfl rfl (by decide) rfl ?_
                refine x_imul 62 dX7_order_61 rfl ?_
                refine x_istore_n 63 3 _ dX7_order_62 rfl rfl (by decide) rfl rfl ?_
                refine x_iinc 66 _ dX7_order_63 rfl (by decide) rfl rfl rfl ?_
                refine x_goto 53 dX7_order_66 (by decide) ?_
                have e0 := ih (k + 1) (by omega) (by omega)
                rw [Nat.pow_succ] at e0
                exact e0
          refine x_iconst 49 dX7_order_48 rfl ?_
          refine x_istore_n 50 3 _ dX7_order_49 rfl rfl (by decide) rfl rfl ?_
          refine x_iconst 51 dX7_order_50 rfl ?_
          refine x_istore 53 4 _ dX7_order_51 rfl (by decide) rfl rfl ?_
          have e0 := pwl (f + 1) 0 (by omega) (by omega)
          rw [Nat.pow_zero] at e0
          exact e0
        · refine x_bipush 47 dX7_order_45 rfl (by decide) ?_
          refine x_iret dX7_order_47 rfl ⟨rfl, Nat.le_refl _⟩ (qi_i ?_)
          refine PM.same hC ?_
          unfold aOrder; rw [if_pos (by omega), if_pos (by omega)]
  · refine x_iload_n 5 1 dX7_order_4 rfl rfl (by decide) rfl ?_
    refine x_i2l 6 dX7_order_5 rfl (by omega) ?_
    refine x_ldc2 9 10 qX7_209 dX7_order_6 rfl ?_
    refine x_ldc2 12 14 qX7_211 dX7_order_9 rfl ?_
    refine x_sp 15 [_, _, _] (m_in _ _ _ (by omega) (by omega) (by omega)) mX7_in kX7_53 dX7_order_12 rfl rfl rfl (Nat.le_of_ble_eq_true rfl) (by decide) ?_
    refine x_ifne_b 20 18 dX7_order_15 (by decide) rfl (fun h15 => ?_) (fun h15 => ?_)
    · refine x_aload_n 21 0 dX7_order_20 rfl rfl (by decide) rfl ?_
      refine x_getR 24 0 51 dX7_order_21 rfl fX7_7 rfl rfl rfl ?_
      refine x_bipush 26 dX7_order_24 rfl (by decide) ?_
      refine x_iaload 27 dX7_order_26 rfl rfl (by omega) (fun g26 => ?_)
      rw [e40]
      refine x_istore_n 28 2 _ dX7_order_27 rfl rfl (by decide) rfl rfl ?_
      refine x_iload_n 29 2 dX7_order_28 rfl rfl (by decide) rfl ?_
      refine x_iconst 30 dX7_order_29 rfl ?_
      refine x_icmp_gt 45 33 dX7_order_30 (by decide) rfl (by omega) (fun h30 => ?_) (fun h30 => ?_)
      · refine x_bipush 47 dX7_order_45 rfl (by decide) ?_
        refine x_iret dX7_order_47 rfl ⟨rfl, Nat.le_refl _⟩ (qi_i ?_)
        refine PM.same hC ?_
        unfold aOrder; rw [if_pos (by omega), if_pos (by omega)]
      · refine x_iload_n 34 2 dX7_order_33 rfl rfl (by decide) rfl ?_
        refine x_if_le 48 37 dX7_order_34 (by decide) rfl (by omega) (fun h34 => ?_) (fun h34 => ?_)
        · obtain ⟨f, hvf⟩ := Int.eq_ofNat_of_zero_le (show 0 ≤ vf (sV s) by omega)
          rw [hvf]
          have hf5 : f ≤ 5 := by omega
          have hft : (vf (sV s)).toNat = f := by omega
          have fo := fixN_or oV
          have hno : ¬ (5 < vf (sV s) ∨ 0 < fixN (sV s)) := by omega
          have hff := pw5 f (by omega) f (Nat.le_refl _)
          have fin : ∀ (M4 : Mem) (best : Nat) (least : Int) (j6 j7 : Option Value), SM M M4 → best ≤ 3125 → (-2147483648 ≤ least ∧ least ≤ 2147483647) → least = (ordB (sV s) (facN f)).2 → (∀ p, p < f → dg f best p = rowF f (ordB (sV s) (facN f)).1.toNat p) → X g tX7_order (kk0 5) 142 [some (rv g 50), some (iv w), some (iv f), some (iv (f ^ f : Nat)), some (iv least), some (iv best), j6, j7] [] (S0, R0, M4) (QI (PM M (aOrder s w) s)) := by
            intro M4 best least j6 j7 hS4 hbb hlb hl hd
            have loop : ∀ (m n : Nat) (M2 : Mem), f - n < m → n ≤ f → SM M M2 → (∀ p : Nat, f - n ≤ p → p < f → M2 56 p = (dg f best p : Nat)) → X g tX7_order (kk0 5) 147 [some (rv g 50), some (iv w), some (iv f), some (iv (f ^ f : Nat)), some (iv least), some (iv (best / f ^ n : Nat)), some (iv ((f : Int) - 1 - n)), j7] [] (S0, R0, M2) (QI (PM M (aOrder s w) s)) := by
              intro m
              induction m with
              | zero => intro n M2 k1 k2; omega
              | succ m ih =>
                intro n M2 k1 k2 hSM hrow
                have hcd : best / f ^ n ≤ best := Nat.div_le_self _ _
                refine x_iload 149 6 dX7_order_147 rfl (by decide) rfl ?_
                refine x_if_lt 175 152 dX7_order_149 (by decide) rfl (by omega) (fun h149 => ?_) (fun h149 => ?_)
                · have en : n = f := by omega
                  subst en
                  refine x_iload_n 176 1 dX7_order_175 rfl rfl (by decide) rfl ?_
                  refine x_if_ne 184 179 dX7_order_176 (by decide) rfl (by omega) (fun h176 => ?_) (fun h176 => ?_)
                  · refine x_iload_n 185 1 dX7_order_184 rfl rfl (by decide) rfl ?_
                    refine x_bipush 187 dX7_order_185 rfl (by decide) ?_
                    refine x_isub 188 dX7_order_187 rfl ?_
                    refine x_iload_n 189 2 dX7_order_188 rfl rfl (by decide) rfl ?_
                    refine x_icmp_ge 204 192 dX7_order_189 (by decide) rfl (by omega) (fun h189 => ?_) (fun h189 => ?_)
                    · refine x_bipush 206 dX7_order_204 rfl (by decide) ?_
                      refine x_iret dX7_order_206 rfl ⟨rfl, Nat.le_refl _⟩ (qi_i ?_)
                      refine PM.scr hC ?_ hSM
                      unfold aOrder; rw [if_pos (by omega), if_neg hno, hft, hvf]
                      first
                        | (rw [if_pos (by omega)]; exact hl)
                        | (rw [if_neg (by omega), if_pos (by omega)]; done)
                        | (rw [if_neg (by omega), if_neg (by omega), hpl, Int.toNat_natCast, hd pl (by omega)])
                    · obtain ⟨pl, hpl⟩ := Int.eq_ofNat_of_zero_le (show 0 ≤ w - 10 by omega)
                      refine x_aload_n 193 0 dX7_order_192 rfl rfl (by decide) rfl ?_
                      refine x_getR 196 20 56 dX7_order_193 rfl fX7_29 rfl rfl rfl ?_
                      refine x_iload_n 197 1 dX7_order_196 rfl rfl (by decide) rfl ?_
                      refine x_bipush 199 dX7_order_197 rfl (by decide) ?_
                      refine x_isub 200 dX7_order_199 rfl ?_
                      rw [hpl]
                      refine x_iaload 201 dX7_order_200 rfl rfl (by omega) (fun g200 => ?_)
                      rw [hrow pl (by omega) (by omega)]
                      refine x_goto 206 dX7_order_201 (by decide) ?_
                      refine x_iret dX7_order_206 rfl ⟨rfl, Nat.le_refl _⟩ (qi_i ?_)
                      refine PM.scr hC ?_ hSM
                      unfold aOrder; rw [if_pos (by omega), if_neg hno, hft, hvf]
                      first
                        | (rw [if_pos (by omega)]; exact hl)
                        | (rw [if_neg (by omega), if_pos (by omega)]; done)
                        | (rw [if_neg (by omega), if_neg (by omega), hpl, Int.toNat_natCast, hd pl (by omega)])
                  · refine x_iload 181 4 dX7_order_179 rfl (by decide) rfl ?_
                    refine x_goto 206 dX7_order_181 (by decide) ?_
                    refine x_iret dX7_order_206 rfl ⟨rfl, Nat.le_refl _⟩ (qi_i ?_)
                    refine PM.scr hC ?_ hSM
                    unfold aOrder; rw [if_pos (by omega), if_neg hno, hft, hvf]
                    first
                      | (rw [if_pos (by omega)]; exact hl)
                      | (rw [if_neg (by omega), if_pos (by omega)]; done)
                      | (rw [if_neg (by omega), if_neg (by omega), hpl, Int.toNat_natCast, hd pl (by omega)])
                · have hlt : n < f := by omega
                  have hdg : dg f best (f - 1 - n) = best / f ^ n % f := by (unfold dg; rw [show f - 1 - (f - 1 - n) = n by omega])
                  have hdl : dg f best (f - 1 - n) < f := dg_lt (by omega)
                  refine x_aload_n 153 0 dX7_order_152 rfl rfl (by decide) rfl ?_
                  refine x_getR 156 20 56 dX7_order_153 rfl fX7_29 rfl rfl rfl ?_
                  refine x_iload 158 6 dX7_order_156 rfl (by decide) rfl ?_
                  refine x_iload 160 5 dX7_order_158 rfl (by decide) rfl ?_
                  refine x_iload_n 161 2 dX7_order_160 rfl rfl (by decide) rfl ?_
                  refine x_irem 162 dX7_order_161 rfl (⟨Int.natCast_nonneg _, Int.le_trans (Int.ofNat_le.mpr hcd) (by omega), by omega, by omega⟩) ?_
                  rw [show ((best / f ^ n : Nat) : Int) % (f : Int) = ((dg f best (f - 1 - n) : Nat) : Int) by rw [hdg]; rfl]
                  refine x_iastore 163 dX7_order_162 rfl rfl (by omega) (by omega) ?_
                  refine x_iload 165 5 dX7_order_163 rfl (by decide) rfl ?_
                  refine x_iload_n 166 2 dX7_order_165 rfl rfl (by decide) rfl ?_
                  refine x_idiv 167 dX7_order_166 rfl (⟨Int.natCast_nonneg _, Int.le_trans (Int.ofNat_le.mpr hcd) (by omega), by omega, by omega⟩) ?_
                  rw [show ((best / f ^ n : Nat) : Int) / (f : Int) = ((best / f ^ (n + 1) : Nat) : Int) by rw [Nat.pow_succ, ← Nat.div_div_eq_div_mul]; rfl]
                  refine x_istore 169 5 _ dX7_order_167 rfl (by decide) rfl rfl ?_
                  refine x_iinc 172 _ dX7_order_169 rfl (by decide) rfl rfl rfl ?_
                  refine x_goto 147 dX7_order_172 (by decide) ?_
                  have e0 := ih (n + 1) (up2 M2 56 ((f : Int) - 1 - n) (dg f best (f - 1 - n) : Nat)) (by omega) (by omega) (hSM.upA 56 _ _ (by omega)) (fun p h1 h2 => by
                    rw [up2_i]
                    by_cases e : p = f - 1 - n
                    · rw [if_pos (by omega), e]
                    · rw [if_neg (by omega)]; exact hrow p (by omega) h2)
                  rw [show (f : Int) - 1 - ((n + 1 : Nat) : Int) = (f : Int) - 1 - n + -1 by omega] at e0
                  exact e0
            refine x_iload_n 143 2 dX7_order_142 rfl rfl (by decide) rfl ?_
            refine x_iconst 144 dX7_order_143 rfl ?_
            refine x_isub 145 dX7_order_144 rfl ?_
            refine x_istore 147 6 _ dX7_order_145 rfl (by decide) rfl rfl ?_
            have e0 := loop (f + 1) 0 M4 (by omega) (by omega) hS4 (fun p h1 h2 => by omega)
            rw [Nat.pow_zero, Nat.div_one, show (f : Int) - 1 - ((0 : Nat) : Int) = (f : Int) - 1 by omega] at e0
            exact e0
          have main : ∀ (m c r best : Nat) (least : Int) (M2 : Mem) (j7 : Option Value), f ^ f - c < m → c ≤ f ^ f → SM M M2 → chk f (f ^ f - c) c r = true → best ≤ 3125 → (0 ≤ least ∧ least ≤ 1000000) → OI (sV s) f r best least → X g tX7_order (kk0 5) 79 [some (rv g 50), some (iv w), some (iv f), some (iv (f ^ f : Nat)), some (iv least), some (iv best), some (iv c), j7] [] (S0, R0, M2) (QI (PM M (aOrder s w) s)) := by
            intro m
            induction m with
            | zero => intro c r best least M2 j7 k1 k2; omega
            | succ m ih =>
              intro c r best least M2 j7 k1 k2 hSM hck hbb hlb hOI
              have hV2 := hV.sm hSM (by omega)
              have f19 : M2 50 19 = -4 := (hSM.2.1 19 (by omega)).trans hKs
              refine x_iload 81 6 dX7_order_79 rfl (by decide) rfl ?_
              refine x_iload_n 82 3 dX7_order_81 rfl rfl (by decide) rfl ?_
              refine x_icmp_ge 142 85 dX7_order_82 (by decide) rfl (by omega) (fun h82 => ?_) (fun h82 => ?_)
              · have ec : c = f ^ f := by omega
                subst ec
                rw [Nat.sub_self] at hck
                have er : r = facN f := Nat.eq_of_beq_eq_true hck
                subst er
                rcases hOI with ⟨h0, _, _⟩ | ⟨_, h1, h2⟩
                · have := (facN_b f (by omega)).1
                  omega
                · exact fin _ _ _ _ _ hSM hbb (by omega) h1 h2
              · have hck2 : chk f (f ^ f - (c + 1) + 1) c r = true := by (rw [show f ^ f - (c + 1) + 1 = f ^ f - c by omega]; exact hck)
                refine x_aload_n 86 0 dX7_order_85 rfl rfl (by decide) rfl ?_
                refine x_iload 88 6 dX7_order_86 rfl (by decide) rfl ?_
                refine x_vi 91 [_] (m_ordered hV2 oV f c hvf hf5 (by omega)) mX7_ordered kX7_214 dX7_order_88 rfl rfl ⟨by decide, rfl⟩ rfl rfl (Nat.le_of_ble_eq_true rfl) (by decide) (fun r3 M3 q3 => ?_)
                obtain ⟨rfl, hR3, hF3⟩ := q3
                have hS3 := hSM.tr (SM.of hF3 (by omega))
                refine x_ifeq_b 136 94 dX7_order_91 (by decide) rfl (fun h91 => ?_) (fun h91 => ?_)
                · refine x_iinc 139 _ dX7_order_136 rfl (by decide) rfl rfl rfl ?_
                  refine x_goto 79 dX7_order_139 (by decide) ?_
                  first
                    | exact ih (c + 1) (r + 1) _ _ _ _ (by omega) (by omega) (hS3.tr (SM.of gF (by omega))) hcy.2.2 (by split <;> omega) (by split <;> omega) (OI_s hOI ob (by rw [hft]) hcy.2.1)
                    | exact ih (c + 1) r best least _ _ (by omega) (by omega) hS3 (chk_n hck2 (by assumption)) hbb hlb hOI
                · have hcy := chk_y hck2 (by assumption)
                  have hRp : RP M3 210 (permV (sV s) (rowF f r)) := prD_e hR3 (Int.le_refl _) (fun q hq => hcy.2.1 q (by omega))
                  have hwf : WF (permV (sV s) (rowF f r)) := permV_WF oV (fun p hp => by rw [hft] at hp ⊢; exact rowF_lt f (by omega) r hcy.1 p hp)
                  refine x_aload_n 95 0 dX7_order_94 rfl rfl (by decide) rfl ?_
                  refine x_sipush 98 dX7_order_95 rfl (by decide) ?_
                  refine x_iload_n 99 2 dX7_order_98 rfl rfl (by decide) rfl ?_
                  refine x_vi 102 [_, _] (m_weeksGo (Or.inr rfl) hRp hwf f (by omega) (by show vw (sV s) ≤ 10000; omega) ((hS3.2.1 19 (by omega)).trans hKs)) mX7_weeksGo kX7_201 dX7_order_99 rfl rfl ⟨by decide, rfl⟩ rfl rfl (Nat.le_of_ble_eq_true rfl) (by decide) (fun r4 M4 q4 => ?_)
                  obtain ⟨rfl, -, -, -, -, gF⟩ := q4
                  have ob := owed_bd (goV_WF hwf f)
                  refine x_istore 104 7 _ dX7_order_102 rfl (by decide) rfl rfl ?_
                  refine x_cut 118 (fun z => z = ((if owed (goV (permV (sV s) (rowF f r)) f) < least then c else best : Nat) : Int)) (fun tail104 => ?_) (fun z104 hz104 => ?_)
                  · refine x_iload 106 7 dX7_order_104 rfl (by decide) rfl ?_
                    refine x_iload 108 4 dX7_order_106 rfl (by decide) rfl ?_
                    refine x_icmp_ge 116 111 dX7_order_108 (by decide) rfl (by omega) (fun h108 => ?_) (fun h108 => ?_)
                    · refine x_iload 118 5 dX7_order_116 rfl (by decide) rfl ?_
                      exact tail104 _ (by split <;> omega)
                    · refine x_iload 113 6 dX7_order_111 rfl (by decide) rfl ?_
                      refine x_goto 118 dX7_order_113 (by decide) ?_
                      exact tail104 _ (by split <;> omega)
                  · subst z104
                    refine x_istore 120 5 _ dX7_order_118 rfl (by decide) rfl rfl ?_
                    refine x_cut 134 (fun z => z = (if owed (goV (permV (sV s) (rowF f r)) f) < least then owed (goV (permV (sV s) (rowF f r)) f) else least)) (fun tail120 => ?_) (fun z120 hz120 => ?_)
                    · refine x_iload 122 7 dX7_order_120 rfl (by decide) rfl ?_
                      refine x_iload 124 4 dX7_order_122 rfl (by decide) rfl ?_
                      refine x_icmp_ge 132 127 dX7_order_124 (by decide) rfl (by omega) (fun h124 => ?_) (fun h124 => ?_)
                      · refine x_iload 134 4 dX7_order_132 rfl (by decide) rfl ?_
                        exact tail120 _ (by split <;> omega)
                      · refine x_iload 129 7 dX7_order_127 rfl (by decide) rfl ?_
                        refine x_goto 134 dX7_order_129 (by decide) ?_
                        exact tail120 _ (by split <;> omega)
                    · subst z120
                      refine x_istore 136 4 _ dX7_order_134 rfl (by decide) rfl rfl ?_
                      refine x_iinc 139 _ dX7_order_136 rfl (by decide) rfl rfl rfl ?_
                      refine x_goto 79 dX7_order_139 (by decide) ?_
                      first
                        | exact ih (c + 1) (r + 1) _ _ _ _ (by omega) (by omega) (hS3.tr (SM.of gF (by omega))) hcy.2.2 (by split <;> omega) (by split <;> omega) (OI_s hOI ob (by rw [hft]) hcy.2.1)
                        | exact ih (c + 1) r best least _ _ (by omega) (by omega) hS3 (chk_n hck2 (by assumption)) hbb hlb hOI
          have pwl : ∀ (m k : Nat) , f - k < m → k ≤ f → X g tX7_order (kk0 5) 53 [some (rv g 50), some (iv w), some (iv f), some (iv (f ^ k : Nat)), some (iv k), none, none, none] [] (S0, R0, M) (QI (PM M (aOrder s w) s)) := by
            intro m
            induction m with
            | zero => intro k k1 k2; omega
            | succ m ih =>
              intro k k1 k2
              have hpk := pw5 f (by omega) k k2
              refine x_iload 55 4 dX7_order_53 rfl (by decide) rfl ?_
              refine x_iload_n 56 2 dX7_order_55 rfl rfl (by decide) rfl ?_
              refine x_icmp_ge 69 59 dX7_order_56 (by decide) rfl (by omega) (fun h56 => ?_) (fun h56 => ?_)
              · refine x_ldc 71 1000000 qX7_213 dX7_order_69 rfl ?_
                refine x_istore 73 4 _ dX7_order_71 rfl (by decide) rfl rfl ?_
                refine x_iconst 74 dX7_order_73 rfl ?_
                refine x_istore 76 5 _ dX7_order_74 rfl (by decide) rfl rfl ?_
                refine x_iconst 77 dX7_order_76 rfl ?_
                refine x_istore 79 6 _ dX7_order_77 rfl (by decide) rfl rfl ?_
                have ek : k = f := by omega
                subst ek
                exact main (k ^ k + 1) 0 0 0 1000000 M _ (by omega) (by omega) (SM.rf M) (chk_ok k (by omega)) (by omega) (by omega) (Or.inl ⟨rfl, rfl, rfl⟩)
              · refine x_iload_n 60 3 dX7_order_59 rfl rfl (by decide) rfl ?_
                refine x_iload_n 61 2 dX7_order_60 rfl rfl (by decide) rfl ?_
                refine x_imul 62 dX7_order_61 rfl ?_
                refine x_istore_n 63 3 _ dX7_order_62 rfl rfl (by decide) rfl rfl ?_
                refine x_iinc 66 _ dX7_order_63 rfl (by decide) rfl rfl rfl ?_
                refine x_goto 53 dX7_order_66 (by decide) ?_
                have e0 := ih (k + 1) (by omega) (by omega)
                rw [Nat.pow_succ] at e0
                exact e0
          refine x_iconst 49 dX7_order_48 rfl ?_
          refine x_istore_n 50 3 _ dX7_order_49 rfl rfl (by decide) rfl rfl ?_
          refine x_iconst 51 dX7_order_50 rfl ?_
          refine x_istore 53 4 _ dX7_order_51 rfl (by decide) rfl rfl ?_
          have e0 := pwl (f + 1) 0 (by omega) (by omega)
          rw [Nat.pow_zero] at e0
          exact e0
        · refine x_aload_n 38 0 dX7_order_37 rfl rfl (by decide) rfl ?_
          refine x_iconst 39 dX7_order_38 rfl ?_
          refine x_vp 42 [_] (m_placeOn (show 0 ≤ (0 : Int) ∧ (0 : Int) ≤ 210 by omega) hV oV) mX7_placeOn kX7_151 dX7_order_39 rfl rfl ⟨by decide, rfl⟩ rfl rfl (Nat.le_of_ble_eq_true rfl) (by decide) ?_
          have fo := fixN_or oV
          refine x_if_eq 48 45 dX7_order_42 (by decide) rfl (by omega) (fun h42 => ?_) (fun h42 => ?_)
          · obtain ⟨f, hvf⟩ := Int.eq_ofNat_of_zero_le (show 0 ≤ vf (sV s) by omega)
            rw [hvf]
            have hf5 : f ≤ 5 := by omega
            have hft : (vf (sV s)).toNat = f := by omega
            have fo := fixN_or oV
            have hno : ¬ (5 < vf (sV s) ∨ 0 < fixN (sV s)) := by omega
            have hff := pw5 f (by omega) f (Nat.le_refl _)
            have fin : ∀ (M4 : Mem) (best : Nat) (least : Int) (j6 j7 : Option Value), SM M M4 → best ≤ 3125 → (-2147483648 ≤ least ∧ least ≤ 2147483647) → least = (ordB (sV s) (facN f)).2 → (∀ p, p < f → dg f best p = rowF f (ordB (sV s) (facN f)).1.toNat p) → X g tX7_order (kk0 5) 142 [some (rv g 50), some (iv w), some (iv f), some (iv (f ^ f : Nat)), some (iv least), some (iv best), j6, j7] [] (S0, R0, M4) (QI (PM M (aOrder s w) s)) := by
              intro M4 best least j6 j7 hS4 hbb hlb hl hd
              have loop : ∀ (m n : Nat) (M2 : Mem), f - n < m → n ≤ f → SM M M2 → (∀ p : Nat, f - n ≤ p → p < f → M2 56 p = (dg f best p : Nat)) → X g tX7_order (kk0 5) 147 [some (rv g 50), some (iv w), some (iv f), some (iv (f ^ f : Nat)), some (iv least), some (iv (best / f ^ n : Nat)), some (iv ((f : Int) - 1 - n)), j7] [] (S0, R0, M2) (QI (PM M (aOrder s w) s)) := by
                intro m
                induction m with
                | zero => intro n M2 k1 k2; omega
                | succ m ih =>
                  intro n M2 k1 k2 hSM hrow
                  have hcd : best / f ^ n ≤ best := Nat.div_le_self _ _
                  refine x_iload 149 6 dX7_order_147 rfl (by decide) rfl ?_
                  refine x_if_lt 175 152 dX7_order_149 (by decide) rfl (by omega) (fun h149 => ?_) (fun h149 => ?_)
                  · have en : n = f := by omega
                    subst en
                    refine x_iload_n 176 1 dX7_order_175 rfl rfl (by decide) rfl ?_
                    refine x_if_ne 184 179 dX7_order_176 (by decide) rfl (by omega) (fun h176 => ?_) (fun h176 => ?_)
                    · refine x_iload_n 185 1 dX7_order_184 rfl rfl (by decide) rfl ?_
                      refine x_bipush 187 dX7_order_185 rfl (by decide) ?_
                      refine x_isub 188 dX7_order_187 rfl ?_
                      refine x_iload_n 189 2 dX7_order_188 rfl rfl (by decide) rfl ?_
                      refine x_icmp_ge 204 192 dX7_order_189 (by decide) rfl (by omega) (fun h189 => ?_) (fun h189 => ?_)
                      · refine x_bipush 206 dX7_order_204 rfl (by decide) ?_
                        refine x_iret dX7_order_206 rfl ⟨rfl, Nat.le_refl _⟩ (qi_i ?_)
                        refine PM.scr hC ?_ hSM
                        unfold aOrder; rw [if_pos (by omega), if_neg hno, hft, hvf]
                        first
                          | (rw [if_pos (by omega)]; exact hl)
                          | (rw [if_neg (by omega), if_pos (by omega)]; done)
                          | (rw [if_neg (by omega), if_neg (by omega), hpl, Int.toNat_natCast, hd pl (by omega)])
                      · obtain ⟨pl, hpl⟩ := Int.eq_ofNat_of_zero_le (show 0 ≤ w - 10 by omega)
                        refine x_aload_n 193 0 dX7_order_192 rfl rfl (by decide) rfl ?_
                        refine x_getR 196 20 56 dX7_order_193 rfl fX7_29 rfl rfl rfl ?_
                        refine x_iload_n 197 1 dX7_order_196 rfl rfl (by decide) rfl ?_
                        refine x_bipush 199 dX7_order_197 rfl (by decide) ?_
                        refine x_isub 200 dX7_order_199 rfl ?_
                        rw [hpl]
                        refine x_iaload 201 dX7_order_200 rfl rfl (by omega) (fun g200 => ?_)
                        rw [hrow pl (by omega) (by omega)]
                        refine x_goto 206 dX7_order_201 (by decide) ?_
                        refine x_iret dX7_order_206 rfl ⟨rfl, Nat.le_refl _⟩ (qi_i ?_)
                        refine PM.scr hC ?_ hSM
                        unfold aOrder; rw [if_pos (by omega), if_neg hno, hft, hvf]
                        first
                          | (rw [if_pos (by omega)]; exact hl)
                          | (rw [if_neg (by omega), if_pos (by omega)]; done)
                          | (rw [if_neg (by omega), if_neg (by omega), hpl, Int.toNat_natCast, hd pl (by omega)])
                    · refine x_iload 181 4 dX7_order_179 rfl (by decide) rfl ?_
                      refine x_goto 206 dX7_order_181 (by decide) ?_
                      refine x_iret dX7_order_206 rfl ⟨rfl, Nat.le_refl _⟩ (qi_i ?_)
                      refine PM.scr hC ?_ hSM
                      unfold aOrder; rw [if_pos (by omega), if_neg hno, hft, hvf]
                      first
                        | (rw [if_pos (by omega)]; exact hl)
                        | (rw [if_neg (by omega), if_pos (by omega)]; done)
                        | (rw [if_neg (by omega), if_neg (by omega), hpl, Int.toNat_natCast, hd pl (by omega)])
                  · have hlt : n < f := by omega
                    have hdg : dg f best (f - 1 - n) = best / f ^ n % f := by (unfold dg; rw [show f - 1 - (f - 1 - n) = n by omega])
                    have hdl : dg f best (f - 1 - n) < f := dg_lt (by omega)
                    refine x_aload_n 153 0 dX7_order_152 rfl rfl (by decide) rfl ?_
                    refine x_getR 156 20 56 dX7_order_153 rfl fX7_29 rfl rfl rfl ?_
                    refine x_iload 158 6 dX7_order_156 rfl (by decide) rfl ?_
                    refine x_iload 160 5 dX7_order_158 rfl (by decide) rfl ?_
                    refine x_iload_n 161 2 dX7_order_160 rfl rfl (by decide) rfl ?_
                    refine x_irem 162 dX7_order_161 rfl (⟨Int.natCast_nonneg _, Int.le_trans (Int.ofNat_le.mpr hcd) (by omega), by omega, by omega⟩) ?_
                    rw [show ((best / f ^ n : Nat) : Int) % (f : Int) = ((dg f best (f - 1 - n) : Nat) : Int) by rw [hdg]; rfl]
                    refine x_iastore 163 dX7_order_162 rfl rfl (by omega) (by omega) ?_
                    refine x_iload 165 5 dX7_order_163 rfl (by decide) rfl ?_
                    refine x_iload_n 166 2 dX7_order_165 rfl rfl (by decide) rfl ?_
                    refine x_idiv 167 dX7_order_166 rfl (⟨Int.natCast_nonneg _, Int.le_trans (Int.ofNat_le.mpr hcd) (by omega), by omega, by omega⟩) ?_
                    rw [show ((best / f ^ n : Nat) : Int) / (f : Int) = ((best / f ^ (n + 1) : Nat) : Int) by rw [Nat.pow_succ, ← Nat.div_div_eq_div_mul]; rfl]
                    refine x_istore 169 5 _ dX7_order_167 rfl (by decide) rfl rfl ?_
                    refine x_iinc 172 _ dX7_order_169 rfl (by decide) rfl rfl rfl ?_
                    refine x_goto 147 dX7_order_172 (by decide) ?_
                    have e0 := ih (n + 1) (up2 M2 56 ((f : Int) - 1 - n) (dg f best (f - 1 - n) : Nat)) (by omega) (by omega) (hSM.upA 56 _ _ (by omega)) (fun p h1 h2 => by
                      rw [up2_i]
                      by_cases e : p = f - 1 - n
                      · rw [if_pos (by omega), e]
                      · rw [if_neg (by omega)]; exact hrow p (by omega) h2)
                    rw [show (f : Int) - 1 - ((n + 1 : Nat) : Int) = (f : Int) - 1 - n + -1 by omega] at e0
                    exact e0
              refine x_iload_n 143 2 dX7_order_142 rfl rfl (by decide) rfl ?_
              refine x_iconst 144 dX7_order_143 rfl ?_
              refine x_isub 145 dX7_order_144 rfl ?_
              refine x_istore 147 6 _ dX7_order_145 rfl (by decide) rfl rfl ?_
              have e0 := loop (f + 1) 0 M4 (by omega) (by omega) hS4 (fun p h1 h2 => by omega)
              rw [Nat.pow_zero, Nat.div_one, show (f : Int) - 1 - ((0 : Nat) : Int) = (f : Int) - 1 by omega] at e0
              exact e0
            have main : ∀ (m c r best : Nat) (least : Int) (M2 : Mem) (j7 : Option Value), f ^ f - c < m → c ≤ f ^ f → SM M M2 → chk f (f ^ f - c) c r = true → best ≤ 3125 → (0 ≤ least ∧ least ≤ 1000000) → OI (sV s) f r best least → X g tX7_order (kk0 5) 79 [some (rv g 50), some (iv w), some (iv f), some (iv (f ^ f : Nat)), some (iv least), some (iv best), some (iv c), j7] [] (S0, R0, M2) (QI (PM M (aOrder s w) s)) := by
              intro m
              induction m with
              | zero => intro c r best least M2 j7 k1 k2; omega
              | succ m ih =>
                intro c r best least M2 j7 k1 k2 hSM hck hbb hlb hOI
                have hV2 := hV.sm hSM (by omega)
                have f19 : M2 50 19 = -4 := (hSM.2.1 19 (by omega)).trans hKs
                refine x_iload 81 6 dX7_order_79 rfl (by decide) rfl ?_
                refine x_iload_n 82 3 dX7_order_81 rfl rfl (by decide) rfl ?_
                refine x_icmp_ge 142 85 dX7_order_82 (by decide) rfl (by omega) (fun h82 => ?_) (fun h82 => ?_)
                · have ec : c = f ^ f := by omega
                  subst ec
                  rw [Nat.sub_self] at hck
                  have er : r = facN f := Nat.eq_of_beq_eq_true hck
                  subst er
                  rcases hOI with ⟨h0, _, _⟩ | ⟨_, h1, h2⟩
                  · have := (facN_b f (by omega)).1
                    omega
                  · exact fin _ _ _ _ _ hSM hbb (by omega) h1 h2
                · have hck2 : chk f (f ^ f - (c + 1) + 1) c r = true := by (rw [show f ^ f - (c + 1) + 1 = f ^ f - c by omega]; exact hck)
                  refine x_aload_n 86 0 dX7_order_85 rfl rfl (by decide) rfl ?_
                  refine x_iload 88 6 dX7_order_86 rfl (by decide) rfl ?_
                  refine x_vi 91 [_] (m_ordered hV2 oV f c hvf hf5 (by omega)) mX7_ordered kX7_214 dX7_order_88 rfl rfl ⟨by decide, rfl⟩ rfl rfl (Nat.le_of_ble_eq_true rfl) (by decide) (fun r3 M3 q3 => ?_)
                  obtain ⟨rfl, hR3, hF3⟩ := q3
                  have hS3 := hSM.tr (SM.of hF3 (by omega))
                  refine x_ifeq_b 136 94 dX7_order_91 (by decide) rfl (fun h91 => ?_) (fun h91 => ?_)
                  · refine x_iinc 139 _ dX7_order_136 rfl (by decide) rfl rfl rfl ?_
                    refine x_goto 79 dX7_order_139 (by decide) ?_
                    first
                      | exact ih (c + 1) (r + 1) _ _ _ _ (by omega) (by omega) (hS3.tr (SM.of gF (by omega))) hcy.2.2 (by split <;> omega) (by split <;> omega) (OI_s hOI ob (by rw [hft]) hcy.2.1)
                      | exact ih (c + 1) r best least _ _ (by omega) (by omega) hS3 (chk_n hck2 (by assumption)) hbb hlb hOI
                  · have hcy := chk_y hck2 (by assumption)
                    have hRp : RP M3 210 (permV (sV s) (rowF f r)) := prD_e hR3 (Int.le_refl _) (fun q hq => hcy.2.1 q (by omega))
                    have hwf : WF (permV (sV s) (rowF f r)) := permV_WF oV (fun p hp => by rw [hft] at hp ⊢; exact rowF_lt f (by omega) r hcy.1 p hp)
                    refine x_aload_n 95 0 dX7_order_94 rfl rfl (by decide) rfl ?_
                    refine x_sipush 98 dX7_order_95 rfl (by decide) ?_
                    refine x_iload_n 99 2 dX7_order_98 rfl rfl (by decide) rfl ?_
                    refine x_vi 102 [_, _] (m_weeksGo (Or.inr rfl) hRp hwf f (by omega) (by show vw (sV s) ≤ 10000; omega) ((hS3.2.1 19 (by omega)).trans hKs)) mX7_weeksGo kX7_201 dX7_order_99 rfl rfl ⟨by decide, rfl⟩ rfl rfl (Nat.le_of_ble_eq_true rfl) (by decide) (fun r4 M4 q4 => ?_)
                    obtain ⟨rfl, -, -, -, -, gF⟩ := q4
                    have ob := owed_bd (goV_WF hwf f)
                    refine x_istore 104 7 _ dX7_order_102 rfl (by decide) rfl rfl ?_
                    refine x_cut 118 (fun z => z = ((if owed (goV (permV (sV s) (rowF f r)) f) < least then c else best : Nat) : Int)) (fun tail104 => ?_) (fun z104 hz104 => ?_)
                    · refine x_iload 106 7 dX7_order_104 rfl (by decide) rfl ?_
                      refine x_iload 108 4 dX7_order_106 rfl (by decide) rfl ?_
                      refine x_icmp_ge 116 111 dX7_order_108 (by decide) rfl (by omega) (fun h108 => ?_) (fun h108 => ?_)
                      · refine x_iload 118 5 dX7_order_116 rfl (by decide) rfl ?_
                        exact tail104 _ (by split <;> omega)
                      · refine x_iload 113 6 dX7_order_111 rfl (by decide) rfl ?_
                        refine x_goto 118 dX7_order_113 (by decide) ?_
                        exact tail104 _ (by split <;> omega)
                    · subst z104
                      refine x_istore 120 5 _ dX7_order_118 rfl (by decide) rfl rfl ?_
                      refine x_cut 134 (fun z => z = (if owed (goV (permV (sV s) (rowF f r)) f) < least then owed (goV (permV (sV s) (rowF f r)) f) else least)) (fun tail120 => ?_) (fun z120 hz120 => ?_)
                      · refine x_iload 122 7 dX7_order_120 rfl (by decide) rfl ?_
                        refine x_iload 124 4 dX7_order_122 rfl (by decide) rfl ?_
                        refine x_icmp_ge 132 127 dX7_order_124 (by decide) rfl (by omega) (fun h124 => ?_) (fun h124 => ?_)
                        · refine x_iload 134 4 dX7_order_132 rfl (by decide) rfl ?_
                          exact tail120 _ (by split <;> omega)
                        · refine x_iload 129 7 dX7_order_127 rfl (by decide) rfl ?_
                          refine x_goto 134 dX7_order_129 (by decide) ?_
                          exact tail120 _ (by split <;> omega)
                      · subst z120
                        refine x_istore 136 4 _ dX7_order_134 rfl (by decide) rfl rfl ?_
                        refine x_iinc 139 _ dX7_order_136 rfl (by decide) rfl rfl rfl ?_
                        refine x_goto 79 dX7_order_139 (by decide) ?_
                        first
                          | exact ih (c + 1) (r + 1) _ _ _ _ (by omega) (by omega) (hS3.tr (SM.of gF (by omega))) hcy.2.2 (by split <;> omega) (by split <;> omega) (OI_s hOI ob (by rw [hft]) hcy.2.1)
                          | exact ih (c + 1) r best least _ _ (by omega) (by omega) hS3 (chk_n hck2 (by assumption)) hbb hlb hOI
            have pwl : ∀ (m k : Nat) , f - k < m → k ≤ f → X g tX7_order (kk0 5) 53 [some (rv g 50), some (iv w), some (iv f), some (iv (f ^ k : Nat)), some (iv k), none, none, none] [] (S0, R0, M) (QI (PM M (aOrder s w) s)) := by
              intro m
              induction m with
              | zero => intro k k1 k2; omega
              | succ m ih =>
                intro k k1 k2
                have hpk := pw5 f (by omega) k k2
                refine x_iload 55 4 dX7_order_53 rfl (by decide) rfl ?_
                refine x_iload_n 56 2 dX7_order_55 rfl rfl (by decide) rfl ?_
                refine x_icmp_ge 69 59 dX7_order_56 (by decide) rfl (by omega) (fun h56 => ?_) (fun h56 => ?_)
                · refine x_ldc 71 1000000 qX7_213 dX7_order_69 rfl ?_
                  refine x_istore 73 4 _ dX7_order_71 rfl (by decide) rfl rfl ?_
                  refine x_iconst 74 dX7_order_73 rfl ?_
                  refine x_istore 76 5 _ dX7_order_74 rfl (by decide) rfl rfl ?_
                  refine x_iconst 77 dX7_order_76 rfl ?_
                  refine x_istore 79 6 _ dX7_order_77 rfl (by decide) rfl rfl ?_
                  have ek : k = f := by omega
                  subst ek
                  exact main (k ^ k + 1) 0 0 0 1000000 M _ (by omega) (by omega) (SM.rf M) (chk_ok k (by omega)) (by omega) (by omega) (Or.inl ⟨rfl, rfl, rfl⟩)
                · refine x_iload_n 60 3 dX7_order_59 rfl rfl (by decide) rfl ?_
                  refine x_iload_n 61 2 dX7_order_60 rfl rfl (by decide) rfl ?_
                  refine x_imul 62 dX7_order_61 rfl ?_
                  refine x_istore_n 63 3 _ dX7_order_62 rfl rfl (by decide) rfl rfl ?_
                  refine x_iinc 66 _ dX7_order_63 rfl (by decide) rfl rfl rfl ?_
                  refine x_goto 53 dX7_order_66 (by decide) ?_
                  have e0 := ih (k + 1) (by omega) (by omega)
                  rw [Nat.pow_succ] at e0
                  exact e0
            refine x_iconst 49 dX7_order_48 rfl ?_
            refine x_istore_n 50 3 _ dX7_order_49 rfl rfl (by decide) rfl rfl ?_
            refine x_iconst 51 dX7_order_50 rfl ?_
            refine x_istore 53 4 _ dX7_order_51 rfl (by decide) rfl rfl ?_
            have e0 := pwl (f + 1) 0 (by omega) (by omega)
            rw [Nat.pow_zero] at e0
            exact e0
          · refine x_bipush 47 dX7_order_45 rfl (by decide) ?_
            refine x_iret dX7_order_47 rfl ⟨rfl, Nat.le_refl _⟩ (qi_i ?_)
            refine PM.same hC ?_
            unfold aOrder; rw [if_pos (by omega), if_pos (by omega)]
    · refine x_iconst 19 dX7_order_18 rfl ?_
      refine x_iret dX7_order_19 rfl ⟨rfl, Nat.le_refl _⟩ (qi_i ?_)
      refine PM.same hC ?_
      unfold aOrder; rw [if_neg (by omega)]
