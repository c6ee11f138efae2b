/-- the trial's fixtures, the first j of them put in order -/
def prmJ (v : LV) (r : Nat → Nat) (j : Int) : LV := setB (setA v (fun p => if p < j then vA v (r p.toNat) else vA v p)) (fun p => if p < j then vB v (r p.toNat) else vB v p)
theorem prmJ_0 {M : Mem} {o : Nat} {v : LV} {r : Nat → Nat} (h : Rep M o v) : Rep M o (prmJ v r 0) :=
  Rep.ext h rfl rfl rfl (fun _ _ _ => ⟨rfl, rfl, rfl, rfl⟩) (fun i a _ => ⟨if_neg (by omega), if_neg (by omega)⟩)
theorem prmJ_s {M : Mem} {o : Nat} {v : LV} {r : Nat → Nat} {j : Nat} {x y : Int} (h : Rep M o (prmJ v r j)) (hx : x = vA v (r j)) (hy : y = vB v (r j)) : Rep (up2 (up2 M (o + 5) j x) (o + 6) j y) o (prmJ v r ((j + 1 : Nat) : Int)) := by
  refine Rep.ext (Rep_B (Rep_A h j x) j y) rfl rfl rfl (fun _ _ _ => ⟨rfl, rfl, rfl, rfl⟩) (fun i a b => ⟨?_, ?_⟩)
  · show (if i < ((j + 1 : Nat) : Int) then vA v (r i.toNat) else vA v i) = if i = (j : Int) then x else if i < (j : Int) then vA v (r i.toNat) else vA v i
    by_cases e : i = (j : Int)
    · rw [if_pos (by omega), if_pos e, hx, e, Int.toNat_natCast]
    · rw [if_neg e]
      by_cases e2 : i < (j : Int)
      · rw [if_pos (by omega), if_pos e2]
      · rw [if_neg (by omega), if_neg e2]
  · show (if i < ((j + 1 : Nat) : Int) then vB v (r i.toNat) else vB v i) = if i = (j : Int) then y else if i < (j : Int) then vB v (r i.toNat) else vB v i
    by_cases e : i = (j : Int)
    · rw [if_pos (by omega), if_pos e, hy, e, Int.toNat_natCast]
    · rw [if_neg e]
      by_cases e2 : i < (j : Int)
      · rw [if_pos (by omega), if_pos e2]
      · rw [if_neg (by omega), if_neg e2]
theorem prmJ_e {M : Mem} {o : Nat} {v : LV} {r : Nat → Nat} {j : Int} (h : Rep M o (prmJ v r j)) (hj : vf v ≤ j) : Rep M o (permV v r) :=
  Rep.ext h rfl rfl rfl (fun _ _ _ => ⟨rfl, rfl, rfl, rfl⟩) (fun i _ b => by
    have b : i < vf v := b
    exact ⟨(if_pos (show i < j by omega)).symm, (if_pos (show i < j by omega)).symm⟩)

set_option maxHeartbeats 4000000 in
theorem c_findBestOrder {g : GG} {M : Mem} {v : LV} (hV : Rep M 4 v) (oV : WF v) (oW : vw v ≤ 999) (hf5 : vf v ≤ 5) : CV g tX6_findBestOrder 7 [rv g 0] M (fun M3 => SF M M3 ∧ BS M3 (ordB v (facN (vf v).toNat))) := by
  refine Con.of [some (rv g 0), none, none, none] (by decide +kernel) rfl (Nat.le_of_ble_eq_true rfl) ?_
  have o1 := oV.1
  have o2 := oV.2.1
  have fb := facN_b (vf v).toNat (by omega)
  have inner : ∀ (i : Nat), i < facN (vf v).toNat → ∀ (m j : Nat) (M2 : Mem), (vf v).toNat - j < m → j ≤ (vf v).toNat → SF M M2 → BS M2 (ordB v i) → Rep M2 11 (prmJ v (rowF (vf v).toNat i) j) → (∀ q : Nat, q < (vf v).toNat → M2 25 q = rowF (vf v).toNat i q) → (∀ (M3 : Mem) (jk : Option Value), SF M M3 → BS M3 (ordB v (i + 1)) → X g tX6_findBestOrder (kk0 7) 23 [some (rv g 0), some (iv (facN (vf v).toNat)), some (iv (i + 1 : Nat)), jk] [] (S0, R0, M3) (QV (fun M3 => SF M M3 ∧ BS M3 (ordB v (facN (vf v).toNat))))) → X g tX6_findBestOrder (kk0 7) 46 [some (rv g 0), some (iv (facN (vf v).toNat)), some (iv i), some (iv j)] [] (S0, R0, M2) (QV (fun M3 => SF M M3 ∧ BS M3 (ordB v (facN (vf v).toNat)))) := by
    intro i hi m
    induction m with
    | zero => intro j M2 k1 k2; omega
    | succ m ih =>
      intro j M2 k1 k2 hSF hB hR2 hrow hK
      have hV2 := hSF.R4 hV
      have f7 : M2 4 7 = vf v := hV2.2.1
      refine x_iload_n 47 3 dX6_findBestOrder_46 rfl rfl (by decide) rfl ?_
      refine x_aload_n 48 0 dX6_findBestOrder_47 rfl rfl (by decide) rfl ?_
      refine x_getR 51 2 4 dX6_findBestOrder_48 rfl fX6_24 rfl rfl rfl ?_
      refine x_getI 54 7 7 rfl dX6_findBestOrder_51 rfl fX6_104 rfl rfl (fun g51 => ?_)
      refine x_icmp_ge 109 57 dX6_findBestOrder_54 (by decide) rfl (by omega) (fun h54 => ?_) (fun h54 => ?_)
      · have hRp := prmJ_e hR2 (by omega)
        have hwf : WF (permV v (rowF (vf v).toNat i)) := permV_WF oV (fun p hp => rowF_lt _ (by omega) i hi p hp)
        have ob := owed_bd (goV_WF hwf (vf v).toNat)
        refine x_aload_n 110 0 dX6_findBestOrder_109 rfl rfl (by decide) rfl ?_
        refine x_getR 113 3 11 dX6_findBestOrder_110 rfl fX6_28 rfl rfl rfl ?_
        refine x_aload_n 114 0 dX6_findBestOrder_113 rfl rfl (by decide) rfl ?_
        refine x_getR 117 2 4 dX6_findBestOrder_114 rfl fX6_24 rfl rfl rfl ?_
        refine x_getI 120 7 7 rfl dX6_findBestOrder_117 rfl fX6_104 rfl rfl (fun g117 => ?_)
        refine x_vi 123 [_] (by have z := c_runWeeks (g := g) (o := 11) (Or.inr (Or.inl rfl)) hRp hwf (vf v).toNat (by omega) (by show vw v ≤ 10000; omega); rw [show (((vf v).toNat : Nat) : Int) = M2 4 7 by omega] at z; exact z) mX1_runWeeks kX6_166 dX6_findBestOrder_120 rfl rfl ⟨by decide, rfl⟩ rfl rfl (Nat.le_of_ble_eq_true rfl) (by decide) (fun r4 M4 q4 => ?_)
        obtain ⟨rfl, hR4, hF4⟩ := q4
        refine x_pop 124 dX6_findBestOrder_123 rfl rfl ?_
        refine x_aload_n 125 0 dX6_findBestOrder_124 rfl rfl (by decide) rfl ?_
        refine x_getR 128 8 24 dX6_findBestOrder_125 rfl fX6_55 rfl rfl rfl ?_
        refine x_iload_n 129 2 dX6_findBestOrder_128 rfl rfl (by decide) rfl ?_
        refine x_aload_n 130 0 dX6_findBestOrder_129 rfl rfl (by decide) rfl ?_
        refine x_getR 133 3 11 dX6_findBestOrder_130 rfl fX6_28 rfl rfl rfl ?_
        refine x_vp 136 [] (c_owed (o := 11) (Or.inr (Or.inl rfl)) hR4 (goV_WF hwf (vf v).toNat)) mX1_owed kX6_117 dX6_findBestOrder_133 rfl rfl ⟨by decide, rfl⟩ rfl rfl (Nat.le_of_ble_eq_true rfl) (by decide) ?_
        refine x_vv 139 [_, _] (c_boffer _ _ (by omega) (by omega)) mX0_offer kX6_195 dX6_findBestOrder_136 rfl rfl ⟨by decide, rfl⟩ rfl rfl (Nat.le_of_ble_eq_true rfl) (by decide) (fun M5 q5 => ?_)
        have hB5 := (hB.fr hF4).put (i : Int) (owed (goV (permV v (rowF (vf v).toNat i)) (vf v).toNat))
        have hS5 := (hSF.tr (SF.of hF4)).put (i : Int) (owed (goV (permV v (rowF (vf v).toNat i)) (vf v).toNat))
        rw [← q5] at hB5 hS5
        refine x_iinc 142 _ dX6_findBestOrder_139 rfl (by decide) rfl rfl rfl ?_
        refine x_goto 23 dX6_findBestOrder_142 (by decide) ?_
        exact hK _ _ hS5 hB5
      · have hrl := rowF_lt (vf v).toNat (by omega) i hi j (by omega)
        have hrj := hrow j (by omega)
        obtain ⟨ea, eb⟩ := hV2.2.2.2.2 (rowF (vf v).toNat i j : Nat) (by omega) (by omega)
        refine x_aload_n 58 0 dX6_findBestOrder_57 rfl rfl (by decide) rfl ?_
        refine x_getR 61 3 11 dX6_findBestOrder_58 rfl fX6_28 rfl rfl rfl ?_
        refine x_getR 64 4 16 dX6_findBestOrder_61 rfl fX6_142 rfl rfl rfl ?_
        refine x_iload_n 65 3 dX6_findBestOrder_64 rfl rfl (by decide) rfl ?_
        refine x_aload_n 66 0 dX6_findBestOrder_65 rfl rfl (by decide) rfl ?_
        refine x_getR 69 2 4 dX6_findBestOrder_66 rfl fX6_24 rfl rfl rfl ?_
        refine x_getR 72 4 9 dX6_findBestOrder_69 rfl fX6_142 rfl rfl rfl ?_
        refine x_aload_n 73 0 dX6_findBestOrder_72 rfl rfl (by decide) rfl ?_
        refine x_getR 76 9 25 dX6_findBestOrder_73 rfl fX6_59 rfl rfl rfl ?_
        refine x_iload_n 77 3 dX6_findBestOrder_76 rfl rfl (by decide) rfl ?_
        refine x_iaload 78 dX6_findBestOrder_77 rfl rfl (by omega) (fun g77 => ?_)
        rw [hrj]
        refine x_iaload 79 dX6_findBestOrder_78 rfl rfl (by omega) (fun g78 => ?_)
        refine x_iastore 80 dX6_findBestOrder_79 rfl rfl (by omega) (by omega) ?_
        refine x_aload_n 81 0 dX6_findBestOrder_80 rfl rfl (by decide) rfl ?_
        refine x_getR 84 3 11 dX6_findBestOrder_81 rfl fX6_28 rfl rfl rfl ?_
        refine x_getR 87 5 17 dX6_findBestOrder_84 rfl fX6_145 rfl rfl rfl ?_
        refine x_iload_n 88 3 dX6_findBestOrder_87 rfl rfl (by decide) rfl ?_
        refine x_aload_n 89 0 dX6_findBestOrder_88 rfl rfl (by decide) rfl ?_
        refine x_getR 92 2 4 dX6_findBestOrder_89 rfl fX6_24 rfl rfl rfl ?_
        refine x_getR 95 5 10 dX6_findBestOrder_92 rfl fX6_145 rfl rfl rfl ?_
        refine x_aload_n 96 0 dX6_findBestOrder_95 rfl rfl (by decide) rfl ?_
        refine x_getR 99 9 25 dX6_findBestOrder_96 rfl fX6_59 rfl rfl rfl ?_
        refine x_iload_n 100 3 dX6_findBestOrder_99 rfl rfl (by decide) rfl ?_
        refine x_iaload 101 dX6_findBestOrder_100 rfl rfl (by omega) (fun g100 => ?_)
        rw [up2_o _ _ _ (show 25 ≠ 11 + 5 by omega), hrj]
        refine x_iaload 102 dX6_findBestOrder_101 rfl rfl (by omega) (fun g101 => ?_)
        refine x_iastore 103 dX6_findBestOrder_102 rfl rfl (by omega) (by omega) ?_
        refine x_iinc 106 _ dX6_findBestOrder_103 rfl (by decide) rfl rfl rfl ?_
        refine x_goto 46 dX6_findBestOrder_106 (by decide) ?_
        refine ih (j + 1) _ (by omega) (by omega) ((hSF.up _ _ _ (by unfold Scr; omega)).up _ _ _ (by unfold Scr; omega)) ?_ (prmJ_s hR2 ea ?_) (fun q hq => ?_) hK
        · unfold BS; rw [up2_o _ _ _ (by omega), up2_o _ _ _ (by omega)]; exact hB
        · rw [up2_o _ _ _ (by omega)]; exact eb
        · rw [up2_o _ _ _ (by omega), up2_o _ _ _ (by omega)]; exact hrow q hq
  have outer : ∀ (m i : Nat) (M2 : Mem) (jk : Option Value), facN (vf v).toNat - i < m → i ≤ facN (vf v).toNat → SF M M2 → BS M2 (ordB v i) → X g tX6_findBestOrder (kk0 7) 23 [some (rv g 0), some (iv (facN (vf v).toNat)), some (iv i), jk] [] (S0, R0, M2) (QV (fun M3 => SF M M3 ∧ BS M3 (ordB v (facN (vf v).toNat)))) := by
    intro m
    induction m with
    | zero => intro i M2 jk k1 k2; omega
    | succ m ih =>
      intro i M2 jk k1 k2 hSF hB
      have hV2 := hSF.R4 hV
      have f7 : M2 4 7 = vf v := hV2.2.1
      refine x_iload_n 24 2 dX6_findBestOrder_23 rfl rfl (by decide) rfl ?_
      refine x_iload_n 25 1 dX6_findBestOrder_24 rfl rfl (by decide) rfl ?_
      refine x_icmp_ge 145 28 dX6_findBestOrder_25 (by decide) rfl (by omega) (fun h25 => ?_) (fun h25 => ?_)
      · refine x_vret dX6_findBestOrder_145 rfl ⟨rfl, Nat.le_refl _⟩ (qv_i ?_)
        have hi : i = facN (vf v).toNat := by omega
        subst hi
        exact ⟨hSF, hB⟩
      · refine x_aload_n 29 0 dX6_findBestOrder_28 rfl rfl (by decide) rfl ?_
        refine x_iload_n 30 2 dX6_findBestOrder_29 rfl rfl (by decide) rfl ?_
        refine x_vv 33 [_] (c_setRow (vf v).toNat i (by omega) (by omega) (by omega)) mX6_setRow kX6_185 dX6_findBestOrder_30 rfl rfl ⟨by decide, rfl⟩ rfl rfl (Nat.le_of_ble_eq_true rfl) (by decide) (fun M3 q3 => ?_)
        obtain ⟨h25, hrow⟩ := q3
        have hS3 : SF M M3 := fun a ha => (h25 a (fun e => ha (by rw [e]; unfold Scr; omega))).trans (hSF a ha)
        have hV3 := hS3.R4 hV
        refine x_aload_n 34 0 dX6_findBestOrder_33 rfl rfl (by decide) rfl ?_
        refine x_getR 37 3 11 dX6_findBestOrder_34 rfl fX6_28 rfl rfl rfl ?_
        refine x_aload_n 38 0 dX6_findBestOrder_37 rfl rfl (by decide) rfl ?_
        refine x_getR 41 2 4 dX6_findBestOrder_38 rfl fX6_24 rfl rfl rfl ?_
        refine x_vv 44 [_] (c_become (o := 11) (p := 4) (Or.inr (Or.inl rfl)) (Or.inl rfl) (by decide) hV3 oV) mX1_become kX6_94 dX6_findBestOrder_41 rfl rfl ⟨by decide, rfl⟩ rfl rfl (Nat.le_of_ble_eq_true rfl) (by decide) (fun M4 q4 => ?_)
        obtain ⟨hR4, hF4⟩ := q4
        refine x_iconst 45 dX6_findBestOrder_44 rfl ?_
        refine x_istore_n 46 3 _ dX6_findBestOrder_45 rfl rfl (by decide) rfl rfl ?_
        exact inner i (by omega) ((vf v).toNat + 1) 0 _ (by omega) (by omega) (hS3.tr (SF.of hF4)) (by unfold BS; rw [hF4 24 (by omega), h25 24 (by omega)]; exact hB) (prmJ_0 hR4) (fun q hq => by rw [hF4 25 (by omega)]; exact hrow q hq) (fun M5 jk h1 h2 => ih (i + 1) M5 jk (by omega) (by omega) h1 h2)
  refine x_aload_n 1 0 dX6_findBestOrder_0 rfl rfl (by decide) rfl ?_
  refine x_getR 4 8 24 dX6_findBestOrder_1 rfl fX6_55 rfl rfl rfl ?_
  refine x_sipush 7 dX6_findBestOrder_4 rfl (by decide) ?_
  refine x_vv 10 [_] (c_bstart _ (by omega)) mX0_start kX6_189 dX6_findBestOrder_7 rfl rfl ⟨by decide, rfl⟩ rfl rfl (Nat.le_of_ble_eq_true rfl) (by decide) (fun M0 q0 => ?_)
  subst q0
  have f7 : up2 (up2 M 24 0 (-4)) 24 1 496 4 7 = vf v := by (rw [up2_o _ _ _ (by omega), up2_o _ _ _ (by omega)]; exact hV.2.1)
  refine x_aload_n 11 0 dX6_findBestOrder_10 rfl rfl (by decide) rfl ?_
  refine x_getR 14 2 4 dX6_findBestOrder_11 rfl fX6_24 rfl rfl rfl ?_
  refine x_getI 17 7 7 rfl dX6_findBestOrder_14 rfl fX6_104 rfl rfl (fun g14 => ?_)
  refine x_sp 20 [_] (by have z := c_factorial (g := g) (M := up2 (up2 M 24 0 (-4)) 24 1 496) (vf v).toNat (by omega); rw [show (((vf v).toNat : Nat) : Int) = up2 (up2 M 24 0 (-4)) 24 1 496 4 7 by omega] at z; exact z) mX6_factorial kX6_192 dX6_findBestOrder_17 rfl rfl rfl (Nat.le_of_ble_eq_true rfl) (by decide) ?_
  refine x_istore_n 21 1 _ dX6_findBestOrder_20 rfl rfl (by decide) rfl rfl ?_
  refine x_iconst 22 dX6_findBestOrder_21 rfl ?_
  refine x_istore_n 23 2 _ dX6_findBestOrder_22 rfl rfl (by decide) rfl rfl ?_
  refine outer (facN (vf v).toNat + 1) 0 _ _ (by omega) (by omega) (((SF.rf M).up _ _ _ (by unfold Scr; omega)).up _ _ _ (by unfold Scr; omega)) ⟨?_, ?_⟩
  · rw [up2_k _ _ _ (by omega), up2_s]; rfl
  · rw [up2_s]; rfl

theorem wrap10 {w : Int} (h : -2147483648 ≤ w ∧ w ≤ 2147483647) : ((0 ≤ (Int32.ofInt (w - 10)).toInt ∧ (Int32.ofInt (w - 10)).toInt ≤ 4) ↔ (10 ≤ w ∧ w ≤ 14)) ∧ (-2147483648 ≤ (Int32.ofInt (w - 10)).toInt ∧ (Int32.ofInt (w - 10)).toInt ≤ 2147483647) := by
  refine ⟨?_, i32_rng _⟩
  by_cases e : -2147483638 ≤ w
  · rw [iT (by omega) (by omega)]; omega
  · have : Int32.ofInt (w - 10) = Int32.ofInt (w - 10 + 4294967296) := by
      rw [Int32.ofInt_add]
      have : Int32.ofInt 4294967296 = 0 := by decide
      rw [this]; simp
    rw [this, iT (by omega) (by omega)]; omega

set_option maxHeartbeats 4000000 in
theorem p_order {g : GG} {M : Mem} {s : ST} (hC : Cls M s) (hO : SOK s) (w : Int) (hw : -2147483648 ≤ w ∧ w ≤ 2147483647) : CI g tX6_order 8 [rv g 0, iv w] M (PC M (aOrder s w) s) := by
  refine Con.of [some (rv g 0), some (iv w), none] (by decide +kernel) rfl (Nat.le_of_ble_eq_true rfl) ?_
  obtain ⟨hV, ⟨hk0, hk1, hi0, hi1⟩, ⟨hT1, hT2⟩, ⟨hS1, hS2⟩, hZ, hN, hF⟩ := id hC
  obtain ⟨oV, oW, oI0, oI1, oT, oTb, oS, oSb, oZ⟩ := id hO
  obtain ⟨e6, e7, e8, e4, e5⟩ := id hV
  have o1 := oV.1
  have o2 := oV.2.1
  have o3 := oV.2.2.1
  have hfx : (if 0 < M 4 7 then M 4 8 % M 4 7 else -4) = fixN (sV s) := by (unfold fixN; rw [e7, e8])
  have hfb := fixN_bd oV
  refine x_iload_n 1 1 dX6_order_0 rfl rfl (by decide) rfl ?_
  refine x_if_eq 17 4 dX6_order_1 (by decide) rfl (by omega) (fun h1 => ?_) (fun h1 => ?_)
  · refine x_aload_n 18 0 dX6_order_17 rfl rfl (by decide) rfl ?_
    refine x_getR 21 2 4 dX6_order_18 rfl fX6_24 rfl rfl rfl ?_
    refine x_getI 24 7 7 rfl dX6_order_21 rfl fX6_104 rfl rfl (fun g21 => ?_)
    refine x_iconst 25 dX6_order_24 rfl ?_
    refine x_icmp_gt 38 28 dX6_order_25 (by decide) rfl (by omega) (fun h25 => ?_) (fun h25 => ?_)
    · refine x_bipush 40 dX6_order_38 rfl (by decide) ?_
      refine x_iret dX6_order_40 rfl ⟨rfl, Nat.le_refl _⟩ (qi_i ?_)
      refine PC.same hC ?_
      unfold aOrder; rw [if_pos (by omega), if_pos (by omega)]
    · refine x_aload_n 29 0 dX6_order_28 rfl rfl (by decide) rfl ?_
      refine x_getR 32 2 4 dX6_order_29 rfl fX6_24 rfl rfl rfl ?_
      refine x_vp 35 [] (by have z := c_fixtureNow (g := g) (M := M) (o := 4) (Or.inl rfl) (by omega); rw [hfx] at z; exact z) mX1_fixtureNow kX6_110 dX6_order_32 rfl rfl ⟨by decide, rfl⟩ rfl rfl (Nat.le_of_ble_eq_true rfl) (by decide) ?_
      refine x_if_le 41 38 dX6_order_35 (by decide) rfl (by omega) (fun h35 => ?_) (fun h35 => ?_)
      · refine x_aload_n 42 0 dX6_order_41 rfl rfl (by decide) rfl ?_
        refine x_vv 45 [] (c_findBestOrder hV oV oW (by omega)) mX6_findBestOrder kX6_176 dX6_order_42 rfl rfl ⟨by decide, rfl⟩ rfl rfl (Nat.le_of_ble_eq_true rfl) (by decide) (fun M2 q2 => ?_)
        obtain ⟨hSF, hB⟩ := q2
        have fbn := facN_b (vf (sV s)).toNat (by omega)
        have hin := ordB_in oV (by omega) (facN (vf (sV s)).toNat) (Nat.le_refl _)
        have f7 : M2 4 7 = vf (sV s) := (hSF.R4 hV).2.1
        obtain ⟨hB1, hB2⟩ := id hB
        refine x_iload_n 46 1 dX6_order_45 rfl rfl (by decide) rfl ?_
        refine x_if_ne 57 49 dX6_order_46 (by decide) rfl (by omega) (fun h46 => ?_) (fun h46 => ?_)
        · refine x_iload_n 58 1 dX6_order_57 rfl rfl (by decide) rfl ?_
          refine x_bipush 60 dX6_order_58 rfl (by decide) ?_
          refine x_isub 61 dX6_order_60 rfl ?_
          refine x_istore_n 62 2 _ dX6_order_61 rfl rfl (by decide) rfl rfl ?_
          refine x_iload_n 63 2 dX6_order_62 rfl rfl (by decide) rfl ?_
          refine x_aload_n 64 0 dX6_order_63 rfl rfl (by decide) rfl ?_
          refine x_getR 67 2 4 dX6_order_64 rfl fX6_24 rfl rfl rfl ?_
          refine x_getI 70 7 7 rfl dX6_order_67 rfl fX6_104 rfl rfl (fun g67 => ?_)
          refine x_icmp_lt 76 73 dX6_order_70 (by decide) rfl (by omega) (fun h70 => ?_) (fun h70 => ?_)
          · refine x_aload_n 77 0 dX6_order_76 rfl rfl (by decide) rfl ?_
            refine x_aload_n 78 0 dX6_order_77 rfl rfl (by decide) rfl ?_
            refine x_getR 81 8 24 dX6_order_78 rfl fX6_55 rfl rfl rfl ?_
            refine x_getI 84 0 0 rfl dX6_order_81 rfl fX6_182 rfl rfl (fun g81 => ?_)
            refine x_vv 87 [_] (by have z := c_setRow (g := g) (M := M2) (vf (sV s)).toNat (ordB (sV s) (facN (vf (sV s)).toNat)).1.toNat (by omega) (by omega) (by omega); rw [show (((ordB (sV s) (facN (vf (sV s)).toNat)).1.toNat : Nat) : Int) = M2 24 0 by omega] at z; exact z) mX6_setRow kX6_185 dX6_order_84 rfl rfl ⟨by decide, rfl⟩ rfl rfl (Nat.le_of_ble_eq_true rfl) (by decide) (fun M3 q3 => ?_)
            obtain ⟨h25, hrow⟩ := q3
            have hr1 := hrow (w - 10).toNat (by omega)
            rw [Int.toNat_of_nonneg (show 0 ≤ w - 10 by omega)] at hr1
            refine x_aload_n 88 0 dX6_order_87 rfl rfl (by decide) rfl ?_
            refine x_getR 91 9 25 dX6_order_88 rfl fX6_59 rfl rfl rfl ?_
            refine x_iload_n 92 2 dX6_order_91 rfl rfl (by decide) rfl ?_
            refine x_iaload 93 dX6_order_92 rfl rfl (by omega) (fun g92 => ?_)
            refine x_iret dX6_order_93 rfl ⟨rfl, Nat.le_refl _⟩ (qi_i ?_)
            refine PC.scr hC ?_ (fun a ha => (h25 a (fun e => ha (by rw [e]; unfold Scr; omega))).trans (hSF a ha))
            unfold aOrder; rw [if_pos (by omega), if_neg (by omega), if_neg (by omega), if_neg (by omega)]; exact hr1
          · refine x_bipush 75 dX6_order_73 rfl (by decide) ?_
            refine x_iret dX6_order_75 rfl ⟨rfl, Nat.le_refl _⟩ (qi_i ?_)
            refine PC.scr hC ?_ hSF
            unfold aOrder; rw [if_pos (by omega), if_neg (by omega), if_neg (by omega), if_pos (by omega)]
        · refine x_aload_n 50 0 dX6_order_49 rfl rfl (by decide) rfl ?_
          refine x_getR 53 8 24 dX6_order_50 rfl fX6_55 rfl rfl rfl ?_
          refine x_getI 56 1 1 rfl dX6_order_53 rfl fX6_179 rfl rfl (fun g53 => ?_)
          refine x_iret dX6_order_56 rfl ⟨rfl, Nat.le_refl _⟩ (qi_i ?_)
          refine PC.scr hC ?_ hSF
          unfold aOrder; rw [if_pos (by omega), if_neg (by omega), if_pos (by omega)]; exact hB2
      · refine x_bipush 40 dX6_order_38 rfl (by decide) ?_
        refine x_iret dX6_order_40 rfl ⟨rfl, Nat.le_refl _⟩ (qi_i ?_)
        refine PC.same hC ?_
        unfold aOrder; rw [if_pos (by omega), if_pos (by omega)]
  · refine x_iload_n 5 1 dX6_order_4 rfl rfl (by decide) rfl ?_
    refine x_bipush 7 dX6_order_5 rfl (by decide) ?_
    refine x_isub 8 dX6_order_7 rfl ?_
    refine x_cv (Int32.ofInt_toInt (Int32.ofInt (w - 10))) ?_
    have hz := wrap10 hw
    generalize (Int32.ofInt (w - 10)).toInt = z at hz ⊢
    refine x_iconst 9 dX6_order_8 rfl ?_
    refine x_sp 12 [_, _] (c_within _ _ (by omega) (by omega)) mX6_within kX6_70 dX6_order_9 rfl rfl rfl (Nat.le_of_ble_eq_true rfl) (by decide) ?_
    refine x_ifne_b 17 15 dX6_order_12 (by decide) rfl (fun h12 => ?_) (fun h12 => ?_)
    · refine x_aload_n 18 0 dX6_order_17 rfl rfl (by decide) rfl ?_
      refine x_getR 21 2 4 dX6_order_18 rfl fX6_24 rfl rfl rfl ?_
      refine x_getI 24 7 7 rfl dX6_order_21 rfl fX6_104 rfl rfl (fun g21 => ?_)
      refine x_iconst 25 dX6_order_24 rfl ?_
      refine x_icmp_gt 38 28 dX6_order_25 (by decide) rfl (by omega) (fun h25 => ?_) (fun h25 => ?_)
      · refine x_bipush 40 dX6_order_38 rfl (by decide) ?_
        refine x_iret dX6_order_40 rfl ⟨rfl, Nat.le_refl _⟩ (qi_i ?_)
        refine PC.same hC ?_
        unfold aOrder; rw [if_pos (by omega), if_pos (by omega)]
      · refine x_aload_n 29 0 dX6_order_28 rfl rfl (by decide) rfl ?_
        refine x_getR 32 2 4 dX6_order_29 rfl fX6_24 rfl rfl rfl ?_
        refine x_vp 35 [] (by have z := c_fixtureNow (g := g) (M := M) (o := 4) (Or.inl rfl) (by omega); rw [hfx] at z; exact z) mX1_fixtureNow kX6_110 dX6_order_32 rfl rfl ⟨by decide, rfl⟩ rfl rfl (Nat.le_of_ble_eq_true rfl) (by decide) ?_
        refine x_if_le 41 38 dX6_order_35 (by decide) rfl (by omega) (fun h35 => ?_) (fun h35 => ?_)
        · refine x_aload_n 42 0 dX6_order_41 rfl rfl (by decide) rfl ?_
          refine x_vv 45 [] (c_findBestOrder hV oV oW (by omega)) mX6_findBestOrder kX6_176 dX6_order_42 rfl rfl ⟨by decide, rfl⟩ rfl rfl (Nat.le_of_ble_eq_true rfl) (by decide) (fun M2 q2 => ?_)
          obtain ⟨hSF, hB⟩ := q2
          have fbn := facN_b (vf (sV s)).toNat (by omega)
          have hin := ordB_in oV (by omega) (facN (vf (sV s)).toNat) (Nat.le_refl _)
          have f7 : M2 4 7 = vf (sV s) := (hSF.R4 hV).2.1
          obtain ⟨hB1, hB2⟩ := id hB
          refine x_iload_n 46 1 dX6_order_45 rfl rfl (by decide) rfl ?_
          refine x_if_ne 57 49 dX6_order_46 (by decide) rfl (by omega) (fun h46 => ?_) (fun h46 => ?_)
          · refine x_iload_n 58 1 dX6_order_57 rfl rfl (by decide) rfl ?_
            refine x_bipush 60 dX6_order_58 rfl (by decide) ?_
            refine x_isub 61 dX6_order_60 rfl ?_
            refine x_istore_n 62 2 _ dX6_order_61 rfl rfl (by decide) rfl rfl ?_
            refine x_iload_n 63 2 dX6_order_62 rfl rfl (by decide) rfl ?_
            refine x_aload_n 64 0 dX6_order_63 rfl rfl (by decide) rfl ?_
            refine x_getR 67 2 4 dX6_order_64 rfl fX6_24 rfl rfl rfl ?_
            refine x_getI 70 7 7 rfl dX6_order_67 rfl fX6_104 rfl rfl (fun g67 => ?_)
            refine x_icmp_lt 76 73 dX6_order_70 (by decide) rfl (by omega) (fun h70 => ?_) (fun h70 => ?_)
            · refine x_aload_n 77 0 dX6_order_76 rfl rfl (by decide) rfl ?_
              refine x_aload_n 78 0 dX6_order_77 rfl rfl (by decide) rfl ?_
              refine x_getR 81 8 24 dX6_order_78 rfl fX6_55 rfl rfl rfl ?_
              refine x_getI 84 0 0 rfl dX6_order_81 rfl fX6_182 rfl rfl (fun g81 => ?_)
              refine x_vv 87 [_] (by have z := c_setRow (g := g) (M := M2) (vf (sV s)).toNat (ordB (sV s) (facN (vf (sV s)).toNat)).1.toNat (by omega) (by omega) (by omega); rw [show (((ordB (sV s) (facN (vf (sV s)).toNat)).1.toNat : Nat) : Int) = M2 24 0 by omega] at z; exact z) mX6_setRow kX6_185 dX6_order_84 rfl rfl ⟨by decide, rfl⟩ rfl rfl (Nat.le_of_ble_eq_true rfl) (by decide) (fun M3 q3 => ?_)
              obtain ⟨h25, hrow⟩ := q3
              have hr1 := hrow (w - 10).toNat (by omega)
              rw [Int.toNat_of_nonneg (show 0 ≤ w - 10 by omega)] at hr1
              refine x_aload_n 88 0 dX6_order_87 rfl rfl (by decide) rfl ?_
              refine x_getR 91 9 25 dX6_order_88 rfl fX6_59 rfl rfl rfl ?_
              refine x_iload_n 92 2 dX6_order_91 rfl rfl (by decide) rfl ?_
              refine x_iaload 93 dX6_order_92 rfl rfl (by omega) (fun g92 => ?_)
              refine x_iret dX6_order_93 rfl ⟨rfl, Nat.le_refl _⟩ (qi_i ?_)
              refine PC.scr hC ?_ (fun a ha => (h25 a (fun e => ha (by rw [e]; unfold Scr; omega))).trans (hSF a ha))
              unfold aOrder; rw [if_pos (by omega), if_neg (by omega), if_neg (by omega), if_neg (by omega)]; exact hr1
            · refine x_bipush 75 dX6_order_73 rfl (by decide) ?_
              refine x_iret dX6_order_75 rfl ⟨rfl, Nat.le_refl _⟩ (qi_i ?_)
              refine PC.scr hC ?_ hSF
              unfold aOrder; rw [if_pos (by omega), if_neg (by omega), if_neg (by omega), if_pos (by omega)]
          · refine x_aload_n 50 0 dX6_order_49 rfl rfl (by decide) rfl ?_
            refine x_getR 53 8 24 dX6_order_50 rfl fX6_55 rfl rfl rfl ?_
            refine x_getI 56 1 1 rfl dX6_order_53 rfl fX6_179 rfl rfl (fun g53 => ?_)
            refine x_iret dX6_order_56 rfl ⟨rfl, Nat.le_refl _⟩ (qi_i ?_)
            refine PC.scr hC ?_ hSF
            unfold aOrder; rw [if_pos (by omega), if_neg (by omega), if_pos (by omega)]; exact hB2
        · refine x_bipush 40 dX6_order_38 rfl (by decide) ?_
          refine x_iret dX6_order_40 rfl ⟨rfl, Nat.le_refl _⟩ (qi_i ?_)
          refine PC.same hC ?_
          unfold aOrder; rw [if_pos (by omega), if_pos (by omega)]
    · refine x_iconst 16 dX6_order_15 rfl ?_
      refine x_iret dX6_order_16 rfl ⟨rfl, Nat.le_refl _⟩ (qi_i ?_)
      refine PC.same hC ?_
      unfold aOrder; rw [if_neg (by omega)]
