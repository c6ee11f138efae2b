set_option maxHeartbeats 4000000 in
theorem r_see {g : GG} {M : Mem} {s : ST} (hC : Mdl M s) (hO : SOK s) (n t : Int) (hn : -2147483648 ≤ n ∧ n ≤ 2147483647) (ht : -2147483648 ≤ t ∧ t ≤ 2147483647) : CI g tX7_see 2 [rv g 50, iv n, iv t] M (PM M (aSee s n t) (nSee s n t)) := by
  refine Con.of [some (rv g 50), some (iv n), some (iv t)] (by decide +kernel) rfl (Nat.le_of_ble_eq_true rfl) ?_
  obtain ⟨hV, ⟨hk0, hk1, hi0, hi1⟩, ⟨hT1, hT2⟩, ⟨hS1, hS2⟩, hZ, hN, hF, hKs, hMC⟩ := id hC
  obtain ⟨oV, oW, oI0, oI1, oT, oTb, oS, oSb, oZ⟩ := id hO
  have e1 : M 50 1 = vn (sV s) := hV.2.1
  have e40 : M 51 40 = vf (sV s) := hV.F (by omega)
  have e41 : M 51 41 = vw (sV s) := hV.W (by omega)
  have o1 := oV.1
  have o2 := oV.2.1
  have o3 := oV.2.2.1
  refine x_iload_n 1 1 dX7_see_0 rfl rfl (by decide) rfl ?_
  refine x_i2l 2 dX7_see_1 rfl (by omega) ?_
  refine x_lconst 3 dX7_see_2 rfl 0 rfl ?_
  refine x_ldc2 6 20 qX7_180 dX7_see_3 rfl ?_
  refine x_sp 9 [_, _, _] (m_in _ _ _ (by omega) (by omega) (by omega)) mX7_in kX7_53 dX7_see_6 rfl rfl rfl (Nat.le_of_ble_eq_true rfl) (by decide) ?_
  refine x_ifeq_b 26 12 dX7_see_9 (by decide) rfl (fun h9 => ?_) (fun h9 => ?_)
  · refine x_iconst 27 dX7_see_26 rfl ?_
    refine x_iret dX7_see_27 rfl ⟨rfl, Nat.le_refl _⟩ (qi_i ?_)
    have y1 : aSee s n t = -1 := by (unfold aSee; rw [if_neg (by omega)])
    have y2 : nSee s n t = s := by (unfold nSee; rw [if_neg (by omega)])
    rw [y1, y2]; exact PM.same hC rfl
  · refine x_aload_n 13 0 dX7_see_12 rfl rfl (by decide) rfl ?_
    refine x_iload_n 14 2 dX7_see_13 rfl rfl (by decide) rfl ?_
    refine x_vp 17 [_] (m_isTown _ t e1 (by omega) (by omega)) mX7_isTown kX7_131 dX7_see_14 rfl rfl ⟨by decide, rfl⟩ rfl rfl (Nat.le_of_ble_eq_true rfl) (by decide) ?_
    refine x_ifne_b 28 20 dX7_see_17 (by decide) rfl (fun h17 => ?_) (fun h17 => ?_)
    · refine x_aload_n 29 0 dX7_see_28 rfl rfl (by decide) rfl ?_
      refine x_getI 32 22 22 rfl dX7_see_29 rfl fX7_128 rfl rfl (fun g29 => ?_)
      rw [hS1]
      refine x_bipush 34 dX7_see_32 rfl (by decide) ?_
      refine x_icmp_ne 40 37 dX7_see_34 (by decide) rfl (by omega) (fun h34 => ?_) (fun h34 => ?_)
      · refine x_aload_n 41 0 dX7_see_40 rfl rfl (by decide) rfl ?_
        refine x_getR 44 21 57 dX7_see_41 rfl fX7_32 rfl rfl rfl ?_
        refine x_iconst 45 dX7_see_44 rfl ?_
        refine x_aload_n 46 0 dX7_see_45 rfl rfl (by decide) rfl ?_
        refine x_getI 49 22 22 rfl dX7_see_46 rfl fX7_128 rfl rfl (fun g46 => ?_)
        rw [hS1]
        refine x_imul 50 dX7_see_49 rfl ?_
        refine x_iload_n 51 1 dX7_see_50 rfl rfl (by decide) rfl ?_
        refine x_iastore 52 dX7_see_51 rfl rfl (by omega) (by omega) ?_
        refine x_aload_n 53 0 dX7_see_52 rfl rfl (by decide) rfl ?_
        refine x_getR 56 21 57 dX7_see_53 rfl fX7_32 rfl rfl rfl ?_
        refine x_iconst 57 dX7_see_56 rfl ?_
        refine x_aload_n 58 0 dX7_see_57 rfl rfl (by decide) rfl ?_
        refine x_getI 61 22 22 rfl dX7_see_58 rfl fX7_128 rfl rfl (fun g58 => ?_)
        rw [up2_o _ _ _ (by omega), hS1]
        refine x_imul 62 dX7_see_61 rfl ?_
        refine x_iconst 63 dX7_see_62 rfl ?_
        refine x_iadd 64 dX7_see_63 rfl ?_
        refine x_iload_n 65 2 dX7_see_64 rfl rfl (by decide) rfl ?_
        refine x_iastore 66 dX7_see_65 rfl rfl (by omega) (by omega) ?_
        refine x_aload_n 67 0 dX7_see_66 rfl rfl (by decide) rfl ?_
        refine x_dup 68 dX7_see_67 rfl rfl ?_
        refine x_getI 71 22 22 rfl dX7_see_68 rfl fX7_128 rfl rfl (fun g68 => ?_)
        rw [up2_o _ _ _ (by omega), up2_o _ _ _ (by omega), hS1]
        refine x_iconst 72 dX7_see_71 rfl ?_
        refine x_iadd 73 dX7_see_72 rfl ?_
        refine x_putI 76 22 22 rfl dX7_see_73 rfl fX7_128 rfl rfl rfl (by omega) ?_
        refine x_aload_n 77 0 dX7_see_76 rfl rfl (by decide) rfl ?_
        refine x_getI 80 22 22 rfl dX7_see_77 rfl fX7_128 rfl rfl (fun g77 => ?_)
        rw [up2_s]
        refine x_iret dX7_see_80 rfl ⟨rfl, Nat.le_refl _⟩ (qi_i ?_)
        have y1 : aSee s n t = sc s + 1 := by (unfold aSee; rw [if_pos (by omega), if_pos (by omega)])
        have y2 : nSee s n t = uS s (sc s + 1) (fu (sw s) (sc s) n) (fu (sl s) (sc s) t) := by (unfold nSee; rw [if_pos (by omega), if_pos (by omega)])
        rw [y1, y2]
        refine ⟨rfl, mdl_uS hC _ _ _ (fun a h1 h2 => by rw [up2_o _ _ _ h1, up2_o _ _ _ h2, up2_o _ _ _ h2]) (fun k hk => by rw [up2_k _ _ _ hk, up2_o _ _ _ (by omega), up2_o _ _ _ (by omega)]) ⟨up2_s _ _ _ _, fun i a b => ?_⟩, fun a ha => by rw [up2_o _ _ _ (by omega), up2_o _ _ _ (by omega), up2_o _ _ _ (by omega)]⟩
        unfold fu
        rw [up2_o _ _ _ (by omega)]
        by_cases e : i = sc s
        · subst e
          rw [if_pos rfl, if_pos rfl]
          exact ⟨by rw [up2_k _ _ _ (by omega), up2_s], up2_s _ _ _ _⟩
        · rw [if_neg e, if_neg e, up2_k _ _ _ (by omega), up2_k _ _ _ (by omega), up2_k _ _ _ (by omega), up2_k _ _ _ (by omega)]
          exact hS2 i a (by omega)
      · refine x_bipush 39 dX7_see_37 rfl (by decide) ?_
        refine x_iret dX7_see_39 rfl ⟨rfl, Nat.le_refl _⟩ (qi_i ?_)
        have y1 : aSee s n t = -3 := by (unfold aSee; rw [if_pos (by omega), if_neg (by omega)])
        have y2 : nSee s n t = s := by (unfold nSee; rw [if_pos (by omega), if_neg (by omega)])
        rw [y1, y2]; exact PM.same hC rfl
    · refine x_iload_n 21 2 dX7_see_20 rfl rfl (by decide) rfl ?_
      refine x_bipush 23 dX7_see_21 rfl (by decide) ?_
      refine x_icmp_eq 28 26 dX7_see_23 (by decide) rfl (by omega) (fun h23 => ?_) (fun h23 => ?_)
      · refine x_aload_n 29 0 dX7_see_28 rfl rfl (by decide) rfl ?_
        refine x_getI 32 22 22 rfl dX7_see_29 rfl fX7_128 rfl rfl (fun g29 => ?_)
        rw [hS1]
        refine x_bipush 34 dX7_see_32 rfl (by decide) ?_
        refine x_icmp_ne 40 37 dX7_see_34 (by decide) rfl (by omega) (fun h34 => ?_) (fun h34 => ?_)
        · refine x_aload_n 41 0 dX7_see_40 rfl rfl (by decide) rfl ?_
          refine x_getR 44 21 57 dX7_see_41 rfl fX7_32 rfl rfl rfl ?_
          refine x_iconst 45 dX7_see_44 rfl ?_
          refine x_aload_n 46 0 dX7_see_45 rfl rfl (by decide) rfl ?_
          refine x_getI 49 22 22 rfl dX7_see_46 rfl fX7_128 rfl rfl (fun g46 => ?_)
          rw [hS1]
          refine x_imul 50 dX7_see_49 rfl ?_
          refine x_iload_n 51 1 dX7_see_50 rfl rfl (by decide) rfl ?_
          refine x_iastore 52 dX7_see_51 rfl rfl (by omega) (by omega) ?_
          refine x_aload_n 53 0 dX7_see_52 rfl rfl (by decide) rfl ?_
          refine x_getR 56 21 57 dX7_see_53 rfl fX7_32 rfl rfl rfl ?_
          refine x_iconst 57 dX7_see_56 rfl ?_
          refine x_aload_n 58 0 dX7_see_57 rfl rfl (by decide) rfl ?_
          refine x_getI 61 22 22 rfl dX7_see_58 rfl fX7_128 rfl rfl (fun g58 => ?_)
          rw [up2_o _ _ _ (by omega), hS1]
          refine x_imul 62 dX7_see_61 rfl ?_
          refine x_iconst 63 dX7_see_62 rfl ?_
          refine x_iadd 64 dX7_see_63 rfl ?_
          refine x_iload_n 65 2 dX7_see_64 rfl rfl (by decide) rfl ?_
          refine x_iastore 66 dX7_see_65 rfl rfl (by omega) (by omega) ?_
          refine x_aload_n 67 0 dX7_see_66 rfl rfl (by decide) rfl ?_
          refine x_dup 68 dX7_see_67 rfl rfl ?_
          refine x_getI 71 22 22 rfl dX7_see_68 rfl fX7_128 rfl rfl (fun g68 => ?_)
          rw [up2_o _ _ _ (by omega), up2_o _ _ _ (by omega), hS1]
          refine x_iconst 72 dX7_see_71 rfl ?_
          refine x_iadd 73 dX7_see_72 rfl ?_
          refine x_putI 76 22 22 rfl dX7_see_73 rfl fX7_128 rfl rfl rfl (by omega) ?_
          refine x_aload_n 77 0 dX7_see_76 rfl rfl (by decide) rfl ?_
          refine x_getI 80 22 22 rfl dX7_see_77 rfl fX7_128 rfl rfl (fun g77 => ?_)
          rw [up2_s]
          refine x_iret dX7_see_80 rfl ⟨rfl, Nat.le_refl _⟩ (qi_i ?_)
          have y1 : aSee s n t = sc s + 1 := by (unfold aSee; rw [if_pos (by omega), if_pos (by omega)])
          have y2 : nSee s n t = uS s (sc s + 1) (fu (sw s) (sc s) n) (fu (sl s) (sc s) t) := by (unfold nSee; rw [if_pos (by omega), if_pos (by omega)])
          rw [y1, y2]
          refine ⟨rfl, mdl_uS hC _ _ _ (fun a h1 h2 => by rw [up2_o _ _ _ h1, up2_o _ _ _ h2, up2_o _ _ _ h2]) (fun k hk => by rw [up2_k _ _ _ hk, up2_o _ _ _ (by omega), up2_o _ _ _ (by omega)]) ⟨up2_s _ _ _ _, fun i a b => ?_⟩, fun a ha => by rw [up2_o _ _ _ (by omega), up2_o _ _ _ (by omega), up2_o _ _ _ (by omega)]⟩
          unfold fu
          rw [up2_o _ _ _ (by omega)]
          by_cases e : i = sc s
          · subst e
            rw [if_pos rfl, if_pos rfl]
            exact ⟨by rw [up2_k _ _ _ (by omega), up2_s], up2_s _ _ _ _⟩
          · rw [if_neg e, if_neg e, up2_k _ _ _ (by omega), up2_k _ _ _ (by omega), up2_k _ _ _ (by omega), up2_k _ _ _ (by omega)]
            exact hS2 i a (by omega)
        · refine x_bipush 39 dX7_see_37 rfl (by decide) ?_
          refine x_iret dX7_see_39 rfl ⟨rfl, Nat.le_refl _⟩ (qi_i ?_)
          have y1 : aSee s n t = -3 := by (unfold aSee; rw [if_pos (by omega), if_neg (by omega)])
          have y2 : nSee s n t = s := by (unfold nSee; rw [if_pos (by omega), if_neg (by omega)])
          rw [y1, y2]; exact PM.same hC rfl
      · refine x_iconst 27 dX7_see_26 rfl ?_
        refine x_iret dX7_see_27 rfl ⟨rfl, Nat.le_refl _⟩ (qi_i ?_)
        have y1 : aSee s n t = -1 := by (unfold aSee; rw [if_neg (by omega)])
        have y2 : nSee s n t = s := by (unfold nSee; rw [if_neg (by omega)])
        rw [y1, y2]; exact PM.same hC rfl

set_option maxHeartbeats 4000000 in
theorem r_forget {g : GG} {M : Mem} {s : ST} (hC : Mdl M s) (hO : SOK s) (n : Int) (hn : -2147483648 ≤ n ∧ n ≤ 2147483647) : CI g tX7_forget 1 [rv g 50, iv n] M (PM M (aForget s n) (nForget s n)) := by
  refine Con.of [some (rv g 50), some (iv n), none] (by decide +kernel) rfl (Nat.le_of_ble_eq_true rfl) ?_
  obtain ⟨hV, ⟨hk0, hk1, hi0, hi1⟩, ⟨hT1, hT2⟩, ⟨hS1, hS2⟩, hZ, hN, hF, hKs, hMC⟩ := id hC
  obtain ⟨oV, oW, oI0, oI1, oT, oTb, oS, oSb, oZ⟩ := id hO
  have e1 : M 50 1 = vn (sV s) := hV.2.1
  have e40 : M 51 40 = vf (sV s) := hV.F (by omega)
  have e41 : M 51 41 = vw (sV s) := hV.W (by omega)
  have o1 := oV.1
  have o2 := oV.2.1
  have o3 := oV.2.2.1
  refine x_iload_n 1 1 dX7_forget_0 rfl rfl (by decide) rfl ?_
  refine x_i2l 2 dX7_forget_1 rfl (by omega) ?_
  refine x_lconst 3 dX7_forget_2 rfl 0 rfl ?_
  refine x_aload_n 4 0 dX7_forget_3 rfl rfl (by decide) rfl ?_
  refine x_getI 7 22 22 rfl dX7_forget_4 rfl fX7_128 rfl rfl (fun g4 => ?_)
  rw [hS1]
  refine x_i2l 8 dX7_forget_7 rfl (by omega) ?_
  refine x_sp 11 [_, _, _] (m_in _ _ _ (by omega) (by omega) (by omega)) mX7_in kX7_53 dX7_forget_8 rfl rfl rfl (Nat.le_of_ble_eq_true rfl) (by decide) ?_
  refine x_ifne_b 16 14 dX7_forget_11 (by decide) rfl (fun h11 => ?_) (fun h11 => ?_)
  · refine x_aload_n 17 0 dX7_forget_16 rfl rfl (by decide) rfl ?_
    refine x_getI 20 22 22 rfl dX7_forget_17 rfl fX7_128 rfl rfl (fun g17 => ?_)
    rw [hS1]
    refine x_istore_n 21 2 _ dX7_forget_20 rfl rfl (by decide) rfl rfl ?_
    refine x_aload_n 22 0 dX7_forget_21 rfl rfl (by decide) rfl ?_
    refine x_iload_n 23 1 dX7_forget_22 rfl rfl (by decide) rfl ?_
    refine x_putI 26 22 22 rfl dX7_forget_23 rfl fX7_128 rfl rfl rfl (by omega) ?_
    refine x_iload_n 27 2 dX7_forget_26 rfl rfl (by decide) rfl ?_
    refine x_iret dX7_forget_27 rfl ⟨rfl, Nat.le_refl _⟩ (qi_i ?_)
    have y1 : aForget s n = sc s := by (unfold aForget; rw [if_pos (by omega)])
    have y2 : nForget s n = uS s n (sw s) (sl s) := by (unfold nForget; rw [if_pos (by omega)])
    rw [y1, y2]
    exact ⟨rfl, mdl_uS hC _ _ _ (fun a h1 h2 => up2_o _ _ _ h1) (fun k hk => up2_k _ _ _ hk) ⟨up2_s _ _ _ _, fun i a b => by rw [up2_o _ _ _ (by omega)]; exact hS2 i a (by omega)⟩, fun a ha => up2_o _ _ _ (by omega)⟩
  · refine x_iconst 15 dX7_forget_14 rfl ?_
    refine x_iret dX7_forget_15 rfl ⟨rfl, Nat.le_refl _⟩ (qi_i ?_)
    have y1 : aForget s n = -1 := by (unfold aForget; rw [if_neg (by omega)])
    have y2 : nForget s n = s := by (unfold nForget; rw [if_neg (by omega)])
    rw [y1, y2]; exact PM.same hC rfl

def asE (sw sl : Int → Int) (q : Bool) (k who : Int) (e : Nat) : Bool := q && !anyN (fun i => decide (sw i = k ∧ sl i ≠ who)) e
theorem asE_s {sw sl : Int → Int} {q : Bool} {k who : Int} {e : Nat} : (asE sw sl q k who (e + 1) = true) ↔ (asE sw sl q k who e = true ∧ ¬ (sw e = k ∧ sl e ≠ who)) := by
  unfold asE
  show (q && !(anyN (fun i => decide (sw i = k ∧ sl i ≠ who)) e || decide (sw e = k ∧ sl e ≠ who))) = true ↔ _
  by_cases h : sw e = k ∧ sl e ≠ who
  · rw [decide_eq_true h]
    cases q <;> cases anyN (fun i => decide (sw i = k ∧ sl i ≠ who)) e <;> simp [h]
  · rw [decide_eq_false h]
    cases q <;> cases anyN (fun i => decide (sw i = k ∧ sl i ≠ who)) e <;> simp [h]
def fitK (n : Nat) (sw sl : Int → Int) (v : LV) (k : Nat) : Bool := !anyN (fun k => !fitsB n sw sl k (whoL v k)) k
theorem fitK_s {n : Nat} {sw sl : Int → Int} {v : LV} {k : Nat} : asE sw sl (fitK n sw sl v k) k (whoL v k) n = fitK n sw sl v (k + 1) := by
  unfold asE fitK
  show _ = !(anyN (fun k => !fitsB n sw sl k (whoL v k)) k || !fitsB n sw sl k (whoL v k))
  unfold fitsB
  cases anyN (fun i => decide (sw i = k ∧ sl i ≠ whoL v k)) n <;> cases anyN (fun k => !!anyN (fun i => decide (sw i = (k : Int) ∧ sl i ≠ whoL v k)) n) k <;> rfl
/-- who loses goes to array 58; else the scratch of weeks alone -/
def FA (M M2 : Mem) : Prop := (∀ a, a ≠ 50 → a ≠ 51 → a ≠ 58 → M2 a = M a) ∧ (∀ k, k ≠ 16 → k ≠ 17 → k ≠ 18 → M2 50 k = M 50 k) ∧ (∀ k, (k < 168 ∨ 210 ≤ k) → M2 51 k = M 51 k)
theorem FA.of {M M2 : Mem} (h : FP 168 M M2) : FA M M2 := ⟨fun a h1 h2 _ => h.1 a h1 h2, h.2.1, fun k hk => h.2.2 k (by omega)⟩
theorem FA.tr {M M2 M3 : Mem} (h : FA M M2) (h2 : FA M2 M3) : FA M M3 := ⟨fun a x y z => (h2.1 a x y z).trans (h.1 a x y z), fun k x y z => (h2.2.1 k x y z).trans (h.2.1 k x y z), fun k x => (h2.2.2 k x).trans (h.2.2 k x)⟩
theorem FA.up {M M2 : Mem} (h : FA M M2) (x y : Int) : FA M (up2 M2 58 x y) := by
  refine ⟨fun a h1 h2 h3 => ?_, fun k h1 h2 h3 => ?_, fun k hk => ?_⟩
  · rw [up2_o M2 x y h3]; exact h.1 a h1 h2 h3
  · rw [up2_o M2 x y (by omega)]; exact h.2.1 k h1 h2 h3
  · rw [up2_o M2 x y (by omega)]; exact h.2.2 k hk

set_option maxHeartbeats 4000000 in
theorem m_isAsSeen {g : GG} {M : Mem} {v : LV} (hR : RP M 0 v) (hW : WF v) (hw : vw v ≤ 999) (hq : M 50 19 = -4) (n : Nat) (sw sl : Int → Int) (hn : M 50 22 = n) (hn6 : n ≤ 6) (hs : ∀ i : Nat, i < n → M 57 (2 * (i : Int)) = sw i ∧ M 57 (2 * (i : Int) + 1) = sl i) (row : Nat) (hrow : row ≤ 20) : CI g tX7_isAsSeen 4 [rv g 50, iv row] M (fun r M3 => r = bI (fitV n sw sl v = true) ∧ FA M M3 ∧ (∀ k : Nat, k < 21 → M3 58 (21 * (row : Int) + k) = whoL v k) ∧ (∀ z, (z < 21 * (row : Int) ∨ 21 * (row : Int) + 21 ≤ z) → M3 58 z = M 58 z)) := by
  refine Con.of [some (rv g 50), some (iv row), none, none, none, none] (by decide +kernel) rfl (Nat.le_of_ble_eq_true rfl) ?_
  have w1 := hW.1
  have loop : ∀ (m k : Nat) (M2 : Mem) (j4 j5 : Option Value), 21 - k < m → k ≤ 21 → RP M2 168 (goV v k) → FA M M2 → (∀ j : Nat, j < k → M2 58 (21 * (row : Int) + j) = whoL v j) → (∀ z, (z < 21 * (row : Int) ∨ 21 * (row : Int) + 21 ≤ z) → M2 58 z = M 58 z) → X g tX7_isAsSeen (kk0 4) 12 [some (rv g 50), some (iv row), some (iv (bI (fitK n sw sl v k = true))), some (iv k), j4, j5] [] (S0, R0, M2) (QI (fun r M3 => r = bI (fitV n sw sl v = true) ∧ FA M M3 ∧ (∀ k : Nat, k < 21 → M3 58 (21 * (row : Int) + k) = whoL v k) ∧ (∀ z, (z < 21 * (row : Int) ∨ 21 * (row : Int) + 21 ≤ z) → M3 58 z = M 58 z))) := by
    intro m
    induction m with
    | zero => intro k M2 j4 j5 k1 k2; omega
    | succ m ih =>
      intro k M2 j4 j5 k1 k2 hR2 hF2 hA hB
      have hgw := goV_w v k
      have hwf := goV_WF hW k
      have hin := wkL_in hwf 0
      have hn5 := hwf.1
      have h19 : M2 50 19 = -4 := (hF2.2.1 19 (by omega) (by omega) (by omega)).trans hq
      have hwi := whoL_in hW k
      have inner : k < 21 → ∀ (m2 e : Nat) (M3 : Mem), n - e < m2 → e ≤ n → RP M3 168 (goV v (k + 1)) → FA M M3 → (∀ j : Nat, j < k + 1 → M3 58 (21 * (row : Int) + j) = whoL v j) → (∀ z, (z < 21 * (row : Int) ∨ 21 * (row : Int) + 21 ≤ z) → M3 58 z = M 58 z) → X g tX7_isAsSeen (kk0 4) 62 [some (rv g 50), some (iv row), some (iv (bI (asE sw sl (fitK n sw sl v k) k (whoL v k) e = true))), some (iv k), some (iv (whoL v k)), some (iv e)] [] (S0, R0, M3) (QI (fun r M3 => r = bI (fitV n sw sl v = true) ∧ FA M M3 ∧ (∀ k : Nat, k < 21 → M3 58 (21 * (row : Int) + k) = whoL v k) ∧ (∀ z, (z < 21 * (row : Int) ∨ 21 * (row : Int) + 21 ≤ z) → M3 58 z = M 58 z))) := by
        intro hk m2
        induction m2 with
        | zero => intro e M3 q1 q2; omega
        | succ m2 ih2 =>
          intro e M3 q1 q2 hR3 hF3 hA3 hB3
          have f22 : M3 50 22 = n := (hF3.2.1 22 (by omega) (by omega) (by omega)).trans hn
          have f57 : M3 57 = M 57 := hF3.1 57 (by omega) (by omega) (by omega)
          refine x_rng (fun hrg => ?_)
          refine x_iload 64 5 dX7_isAsSeen_62 rfl (by decide) rfl ?_
          refine x_aload_n 65 0 dX7_isAsSeen_64 rfl rfl (by decide) rfl ?_
          refine x_getI 68 22 22 rfl dX7_isAsSeen_65 rfl fX7_128 rfl rfl (fun g65 => ?_)
          rw [f22]
          refine x_icmp_ge 116 71 dX7_isAsSeen_68 (by decide) rfl (by omega) (fun h68 => ?_) (fun h68 => ?_)
          · refine x_iinc 119 _ dX7_isAsSeen_116 rfl (by decide) rfl rfl rfl ?_
            refine x_goto 12 dX7_isAsSeen_119 (by decide) ?_
            have ee : e = n := by omega
            subst ee
            rw [fitK_s]
            exact ih (k + 1) _ _ _ (by omega) (by omega) hR3 hF3 hA3 hB3
          · refine x_cut 109 (fun z => z = bI (asE sw sl (fitK n sw sl v k) k (whoL v k) (e + 1) = true)) (fun tail71 => ?_) (fun z71 hz71 => ?_)
            · refine x_iload_n 72 2 dX7_isAsSeen_71 rfl rfl (by decide) rfl ?_
              refine x_ifeq_b 108 75 dX7_isAsSeen_72 (by decide) rfl (fun h72 => ?_) (fun h72 => ?_)
              · refine x_iconst 109 dX7_isAsSeen_108 rfl ?_
                first
                  | exact tail71 _ (bI_t (asE_s.mpr ⟨by assumption, by omega⟩)).symm
                  | exact tail71 _ (bI_f (fun q => absurd (asE_s.mp q).1 (by assumption))).symm
                  | exact tail71 _ (bI_f (fun q => absurd (asE_s.mp q).2 (by omega))).symm
              · have hse := hs e (by omega)
                have r1 := hrg 57 (2 * (e : Int))
                have r2 := hrg 57 (2 * (e : Int) + 1)
                rw [f57, hse.1] at r1
                rw [f57, hse.2] at r2
                refine x_aload_n 76 0 dX7_isAsSeen_75 rfl rfl (by decide) rfl ?_
                refine x_getR 79 21 57 dX7_isAsSeen_76 rfl fX7_32 rfl rfl rfl ?_
                refine x_iconst 80 dX7_isAsSeen_79 rfl ?_
                refine x_iload 82 5 dX7_isAsSeen_80 rfl (by decide) rfl ?_
                refine x_imul 83 dX7_isAsSeen_82 rfl ?_
                refine x_iaload 84 dX7_isAsSeen_83 rfl rfl (by omega) (fun g83 => ?_)
                rw [f57, hse.1]
                refine x_iload_n 85 3 dX7_isAsSeen_84 rfl rfl (by decide) rfl ?_
                refine x_icmp_ne 104 88 dX7_isAsSeen_85 (by decide) rfl (by omega) (fun h85 => ?_) (fun h85 => ?_)
                · refine x_iconst 105 dX7_isAsSeen_104 rfl ?_
                  refine x_goto 109 dX7_isAsSeen_105 (by decide) ?_
                  first
                    | exact tail71 _ (bI_t (asE_s.mpr ⟨by assumption, by omega⟩)).symm
                    | exact tail71 _ (bI_f (fun q => absurd (asE_s.mp q).1 (by assumption))).symm
                    | exact tail71 _ (bI_f (fun q => absurd (asE_s.mp q).2 (by omega))).symm
                · refine x_iload 90 4 dX7_isAsSeen_88 rfl (by decide) rfl ?_
                  refine x_aload_n 91 0 dX7_isAsSeen_90 rfl rfl (by decide) rfl ?_
                  refine x_getR 94 21 57 dX7_isAsSeen_91 rfl fX7_32 rfl rfl rfl ?_
                  refine x_iconst 95 dX7_isAsSeen_94 rfl ?_
                  refine x_iload 97 5 dX7_isAsSeen_95 rfl (by decide) rfl ?_
                  refine x_imul 98 dX7_isAsSeen_97 rfl ?_
                  refine x_iconst 99 dX7_isAsSeen_98 rfl ?_
                  refine x_iadd 100 dX7_isAsSeen_99 rfl ?_
                  refine x_iaload 101 dX7_isAsSeen_100 rfl rfl (by omega) (fun g100 => ?_)
                  rw [f57, hse.2]
                  refine x_icmp_ne 108 104 dX7_isAsSeen_101 (by decide) rfl (by omega) (fun h101 => ?_) (fun h101 => ?_)
                  · refine x_iconst 109 dX7_isAsSeen_108 rfl ?_
                    first
                      | exact tail71 _ (bI_t (asE_s.mpr ⟨by assumption, by omega⟩)).symm
                      | exact tail71 _ (bI_f (fun q => absurd (asE_s.mp q).1 (by assumption))).symm
                      | exact tail71 _ (bI_f (fun q => absurd (asE_s.mp q).2 (by omega))).symm
                  · refine x_iconst 105 dX7_isAsSeen_104 rfl ?_
                    refine x_goto 109 dX7_isAsSeen_105 (by decide) ?_
                    first
                      | exact tail71 _ (bI_t (asE_s.mpr ⟨by assumption, by omega⟩)).symm
                      | exact tail71 _ (bI_f (fun q => absurd (asE_s.mp q).1 (by assumption))).symm
                      | exact tail71 _ (bI_f (fun q => absurd (asE_s.mp q).2 (by omega))).symm
            · subst z71
              refine x_istore_n 110 2 _ dX7_isAsSeen_109 rfl rfl (by decide) rfl rfl ?_
              refine x_iinc 113 _ dX7_isAsSeen_110 rfl (by decide) rfl rfl rfl ?_
              refine x_goto 62 dX7_isAsSeen_113 (by decide) ?_
              exact ih2 (e + 1) M3 (by omega) (by omega) hR3 hF3 hA3 hB3
      refine x_iload_n 13 3 dX7_isAsSeen_12 rfl rfl (by decide) rfl ?_
      refine x_bipush 15 dX7_isAsSeen_13 rfl (by decide) ?_
      refine x_icmp_gt 122 18 dX7_isAsSeen_15 (by decide) rfl (by omega) (fun h15 => ?_) (fun h15 => ?_)
      · refine x_iload_n 123 2 dX7_isAsSeen_122 rfl rfl (by decide) rfl ?_
        refine x_zret dX7_isAsSeen_123 rfl (by first | exact Or.inl rfl | exact Or.inr rfl | exact bI_or _ | omega) ⟨rfl, Nat.le_refl _⟩ (qi_i ?_)
        have ek : k = 21 := by omega
        subst ek
        exact ⟨rfl, hF2, hA, hB⟩
      · refine x_aload_n 19 0 dX7_isAsSeen_18 rfl rfl (by decide) rfl ?_
        refine x_sipush 22 dX7_isAsSeen_19 rfl (by decide) ?_
        refine x_iconst 23 dX7_isAsSeen_22 rfl ?_
        refine x_vv 26 [_, _] (m_week (show 0 ≤ (168 : Int) ∧ (168 : Int) ≤ 210 by omega) hR2 hwf (by omega) 0 (Or.inl rfl) h19) mX7_weekOn kX7_191 dX7_isAsSeen_23 rfl rfl ⟨by decide, rfl⟩ rfl rfl (Nat.le_of_ble_eq_true rfl) (by decide) (fun M3 q3 => ?_)
        obtain ⟨b1, b2, b3, b4, b5⟩ := q3
        have c58 : M3 58 = M2 58 := b5.1 58 (by omega) (by omega)
        refine x_cut 44 (fun z => z = whoL v k) (fun tail26 => ?_) (fun z26 hz26 => ?_)
        · refine x_aload_n 27 0 dX7_isAsSeen_26 rfl rfl (by decide) rfl ?_
          refine x_getI 30 16 16 rfl dX7_isAsSeen_27 rfl fX7_142 rfl rfl (fun g27 => ?_)
          rw [b1]
          refine x_bipush 32 dX7_isAsSeen_30 rfl (by decide) ?_
          refine x_icmp_ne 40 35 dX7_isAsSeen_32 (by decide) rfl (by omega) (fun h32 => ?_) (fun h32 => ?_)
          · refine x_aload_n 41 0 dX7_isAsSeen_40 rfl rfl (by decide) rfl ?_
            refine x_getI 44 16 16 rfl dX7_isAsSeen_41 rfl fX7_142 rfl rfl (fun g41 => ?_)
            exact tail26 _ (by unfold whoL; split <;> omega)
          · refine x_bipush 37 dX7_isAsSeen_35 rfl (by decide) ?_
            refine x_goto 44 dX7_isAsSeen_37 (by decide) ?_
            exact tail26 _ (by unfold whoL; split <;> omega)
        · subst z26
          refine x_istore 46 4 _ dX7_isAsSeen_44 rfl (by decide) rfl rfl ?_
          refine x_aload_n 47 0 dX7_isAsSeen_46 rfl rfl (by decide) rfl ?_
          refine x_getR 50 23 58 dX7_isAsSeen_47 rfl fX7_35 rfl rfl rfl ?_
          refine x_bipush 52 dX7_isAsSeen_50 rfl (by decide) ?_
          refine x_iload_n 53 1 dX7_isAsSeen_52 rfl rfl (by decide) rfl ?_
          refine x_imul 54 dX7_isAsSeen_53 rfl ?_
          refine x_iload_n 55 3 dX7_isAsSeen_54 rfl rfl (by decide) rfl ?_
          refine x_iadd 56 dX7_isAsSeen_55 rfl ?_
          refine x_iload 58 4 dX7_isAsSeen_56 rfl (by decide) rfl ?_
          refine x_iastore 59 dX7_isAsSeen_58 rfl rfl (by omega) (by omega) ?_
          refine x_iconst 60 dX7_isAsSeen_59 rfl ?_
          refine x_istore 62 5 _ dX7_isAsSeen_60 rfl (by decide) rfl rfl ?_
          have e0 := inner (by omega) (n + 1) 0 (up2 M3 58 (21 * (row : Int) + k) (whoL v k)) (by omega) (by omega) (b4.keep (by rw [up2_o _ _ _ (by omega)]) (fun z _ _ => by rw [up2_o _ _ _ (by omega)])) ((hF2.tr (FA.of b5)).up _ _) (fun j hj => by
            rw [up2_i]
            by_cases e : j = k
            · rw [if_pos (by omega), e]
            · rw [if_neg (by omega), c58]; exact hA j (by omega)) (fun z hz => by
            rw [up2_k _ _ _ (by omega), c58]; exact hB z hz)
          rw [show asE sw sl (fitK n sw sl v k) k (whoL v k) 0 = fitK n sw sl v k by unfold asE; cases fitK n sw sl v k <;> rfl] at e0
          exact e0
  refine x_aload_n 1 0 dX7_isAsSeen_0 rfl rfl (by decide) rfl ?_
  refine x_iconst 2 dX7_isAsSeen_1 rfl ?_
  refine x_sipush 5 dX7_isAsSeen_2 rfl (by decide) ?_
  refine x_vv 8 [_, _] (m_copies 0 168 (by omega) (by omega) (by omega)) mX7_copies kX7_195 dX7_isAsSeen_5 rfl rfl ⟨by decide, rfl⟩ rfl rfl (Nat.le_of_ble_eq_true rfl) (by decide) (fun Mc qc => ?_)
  refine x_iconst 9 dX7_isAsSeen_8 rfl ?_
  refine x_istore_n 10 2 _ dX7_isAsSeen_9 rfl rfl (by decide) rfl rfl ?_
  refine x_iconst 11 dX7_isAsSeen_10 rfl ?_
  refine x_istore_n 12 3 _ dX7_isAsSeen_11 rfl rfl (by decide) rfl rfl ?_
  exact loop 22 0 _ _ _ (by omega) (by omega) (hR.copy qc) (FA.of qc.fp) (fun j hj => by omega) (fun z _ => by rw [qc.1 58 (by omega)])

set_option maxHeartbeats 4000000 in
theorem m_numbersAt {g : GG} {M : Mem} (hq : M 50 19 = -4) (n : Nat) (sw sl : Int → Int) (hn : M 50 22 = n) (hn6 : n ≤ 6) (hs : ∀ i : Nat, i < n → M 57 (2 * (i : Int)) = sw i ∧ M 57 (2 * (i : Int) + 1) = sl i) (at_ : Int) (hat : 0 ≤ at_ ∧ at_ < 40) (mo : Nat) (hmo : mo ≤ 20) (u : Nat → LV) (hUW : ∀ x, x ≤ mo → WF (u x)) (hUw : ∀ x, x ≤ mo → vw (u x) ≤ 999) (hU : ∀ (M2 : Mem) (x : Nat), x ≤ mo → M2 50 1 = M 50 1 → (∀ k, k ≠ at_ → 0 ≤ k → k < 42 → M2 51 k = M 51 k) → M2 51 at_ = x → RP M2 0 (u x)) : CI g tX7_numbersAt 5 [rv g 50, iv at_, iv mo] M (fun r M3 => r = (bitN (fun x => fitV n sw sl (u x)) (mo + 1) : Nat) ∧ SM M M3 ∧ (∀ x k : Nat, x ≤ mo → k < 21 → M3 58 (21 * (x : Int) + k) = whoL (u x) k)) := by
  refine Con.of [some (rv g 50), some (iv at_), some (iv mo), none, none, none] (by decide +kernel) rfl (Nat.le_of_ble_eq_true rfl) ?_
  refine x_rng (fun hrg => ?_)
  have rat := hrg 51 at_
  have loop : ∀ (m x : Nat) (M2 : Mem), mo + 1 - x < m → x ≤ mo + 1 → (∀ a, a ≠ 50 → a ≠ 51 → a ≠ 58 → M2 a = M a) → (∀ k, k ≠ 16 → k ≠ 17 → k ≠ 18 → M2 50 k = M 50 k) → (∀ k, k ≠ at_ → (k < 168 ∨ 210 ≤ k) → M2 51 k = M 51 k) → (∀ y k : Nat, y < x → k < 21 → M2 58 (21 * (y : Int) + k) = whoL (u y) k) → X g tX7_numbersAt (kk0 5) 13 [some (rv g 50), some (iv at_), some (iv mo), some (iv (M 51 at_)), some (iv (bitN (fun x => fitV n sw sl (u x)) x : Nat)), some (iv x)] [] (S0, R0, M2) (QI (fun r M3 => r = (bitN (fun x => fitV n sw sl (u x)) (mo + 1) : Nat) ∧ SM M M3 ∧ (∀ x k : Nat, x ≤ mo → k < 21 → M3 58 (21 * (x : Int) + k) = whoL (u x) k))) := by
    intro m
    induction m with
    | zero => intro x M2 k1 k2; omega
    | succ m ih =>
      intro x M2 k1 k2 c1 c2 c3 c4
      have hbn := bitN_lt (fun x => fitV n sw sl (u x)) x
      have d22 : M2 50 22 = n := (c2 22 (by omega) (by omega) (by omega)).trans hn
      have d19 : M2 50 19 = -4 := (c2 19 (by omega) (by omega) (by omega)).trans hq
      have d57 : M2 57 = M 57 := c1 57 (by omega) (by omega) (by omega)
      refine x_iload 15 5 dX7_numbersAt_13 rfl (by decide) rfl ?_
      refine x_iload_n 16 2 dX7_numbersAt_15 rfl rfl (by decide) rfl ?_
      refine x_icmp_gt 55 19 dX7_numbersAt_16 (by decide) rfl (by omega) (fun h16 => ?_) (fun h16 => ?_)
      · refine x_aload_n 56 0 dX7_numbersAt_55 rfl rfl (by decide) rfl ?_
        refine x_getR 59 0 51 dX7_numbersAt_56 rfl fX7_7 rfl rfl rfl ?_
        refine x_iload_n 60 1 dX7_numbersAt_59 rfl rfl (by decide) rfl ?_
        refine x_iload_n 61 3 dX7_numbersAt_60 rfl rfl (by decide) rfl ?_
        refine x_iastore 62 dX7_numbersAt_61 rfl rfl (by omega) (by omega) ?_
        refine x_iload 64 4 dX7_numbersAt_62 rfl (by decide) rfl ?_
        refine x_iret dX7_numbersAt_64 rfl ⟨rfl, Nat.le_refl _⟩ (qi_i ?_)
        have ex : x = mo + 1 := by omega
        subst ex
        refine ⟨rfl, ⟨fun a h1 h2 h3 h4 h5 => ?_, fun k hk => ?_, fun k hk => ?_⟩, fun y k h1 h2 => ?_⟩
        · rw [up2_o _ _ _ h2]; exact c1 a h1 h2 h5
        · rw [up2_o _ _ _ (by omega)]; exact c2 k (by omega) (by omega) (by omega)
        · rw [up2_i]
          by_cases e : k = at_
          · rw [if_pos e, e]
          · rw [if_neg e]; exact c3 k e (by omega)
        · rw [up2_o _ _ _ (by omega)]; exact c4 y k (by omega) h2
      · refine x_aload_n 20 0 dX7_numbersAt_19 rfl rfl (by decide) rfl ?_
        refine x_getR 23 0 51 dX7_numbersAt_20 rfl fX7_7 rfl rfl rfl ?_
        refine x_iload_n 24 1 dX7_numbersAt_23 rfl rfl (by decide) rfl ?_
        refine x_iload 26 5 dX7_numbersAt_24 rfl (by decide) rfl ?_
        refine x_iastore 27 dX7_numbersAt_26 rfl rfl (by omega) (by omega) ?_
        have hRu : RP (up2 M2 51 at_ x) 0 (u x) := hU _ x (by omega) (by rw [up2_o _ _ _ (by omega)]; exact c2 1 (by omega) (by omega) (by omega)) (fun k h1 h2 h3 => by rw [up2_k _ _ _ h1]; exact c3 k h1 (by omega)) (up2_s _ _ _ _)
        refine x_iload 29 4 dX7_numbersAt_27 rfl (by decide) rfl ?_
        refine x_aload_n 30 0 dX7_numbersAt_29 rfl rfl (by decide) rfl ?_
        refine x_iload 32 5 dX7_numbersAt_30 rfl (by decide) rfl ?_
        refine x_vi 35 [_] (m_isAsSeen hRu (hUW x (by omega)) (hUw x (by omega)) (by rw [up2_o _ _ _ (by omega)]; exact d19) n sw sl (by rw [up2_o _ _ _ (by omega)]; exact d22) hn6 (fun i hi => by rw [up2_o _ _ _ (by omega), d57]; exact hs i hi) x (by omega)) mX7_isAsSeen kX7_229 dX7_numbersAt_32 rfl rfl ⟨by decide, rfl⟩ rfl rfl (Nat.le_of_ble_eq_true rfl) (by decide) (fun r3 M3 q3 => ?_)
        obtain ⟨rfl, hF3, hA3, hB3⟩ := q3
        have hcut : X g tX7_numbersAt (kk0 5) 46 [some (rv g 50), some (iv at_), some (iv mo), some (iv (M 51 at_)), some (iv (bitN (fun x => fitV n sw sl (u x)) x : Nat)), some (iv x)] [iv ((if fitV n sw sl (u x) = true then 2 ^ x else 0 : Nat) : Int), iv (bitN (fun x => fitV n sw sl (u x)) x : Nat)] (S0, R0, M3) (QI (fun r M3 => r = (bitN (fun x => fitV n sw sl (u x)) (mo + 1) : Nat) ∧ SM M M3 ∧ (∀ x k : Nat, x ≤ mo → k < 21 → M3 58 (21 * (x : Int) + k) = whoL (u x) k))) := by
          refine x_ior 47 ((bitN (fun x => fitV n sw sl (u x)) x + (if fitV n sw sl (u x) = true then 2 ^ x else 0) : Nat) : Int) dX7_numbersAt_46 rfl (or_if hbn) ?_
          refine x_istore 49 4 _ dX7_numbersAt_47 rfl (by decide) rfl rfl ?_
          refine x_iinc 52 _ dX7_numbersAt_49 rfl (by decide) rfl rfl rfl ?_
          refine x_goto 13 dX7_numbersAt_52 (by decide) ?_
          refine ih (x + 1) _ (by omega) (by omega) (fun a h1 h2 h3 => ?_) (fun k h1 h2 h3 => ?_) (fun k h1 h2 => ?_) (fun y k h1 h2 => ?_)
          · rw [hF3.1 a h1 h2 h3, up2_o _ _ _ h2]; exact c1 a h1 h2 h3
          · rw [hF3.2.1 k h1 h2 h3, up2_o _ _ _ (by omega)]; exact c2 k h1 h2 h3
          · rw [hF3.2.2 k h2, up2_k _ _ _ h1]; exact c3 k h1 h2
          · by_cases e : y = x
            · subst e; exact hA3 k h2
            · rw [hB3 _ (by omega), up2_o _ _ _ (by omega)]; exact c4 y k (by omega) h2
        refine x_ifeq_b 45 38 dX7_numbersAt_35 (by decide) rfl (fun h35 => ?_) (fun h35 => ?_)
        · refine x_iconst 46 dX7_numbersAt_45 rfl ?_
          first
            | (rw [if_pos (by assumption)] at hcut
               exact hcut)
            | (rw [if_neg (by assumption)] at hcut
               exact hcut)
        · refine x_iconst 39 dX7_numbersAt_38 rfl ?_
          refine x_iload 41 5 dX7_numbersAt_39 rfl (by decide) rfl ?_
          refine x_ishl 42 ((2 ^ x : Nat) : Int) dX7_numbersAt_41 rfl (shl1 (by omega)) ?_
          refine x_goto 46 dX7_numbersAt_42 (by decide) ?_
          first
            | (rw [if_pos (by assumption)] at hcut
               exact hcut)
            | (rw [if_neg (by assumption)] at hcut
               exact hcut)
  refine x_aload_n 1 0 dX7_numbersAt_0 rfl rfl (by decide) rfl ?_
  refine x_getR 4 0 51 dX7_numbersAt_1 rfl fX7_7 rfl rfl rfl ?_
  refine x_iload_n 5 1 dX7_numbersAt_4 rfl rfl (by decide) rfl ?_
  refine x_iaload 6 dX7_numbersAt_5 rfl rfl (by omega) (fun g5 => ?_)
  refine x_istore_n 7 3 _ dX7_numbersAt_6 rfl rfl (by decide) rfl rfl ?_
  refine x_iconst 8 dX7_numbersAt_7 rfl ?_
  refine x_istore 10 4 _ dX7_numbersAt_8 rfl (by decide) rfl rfl ?_
  refine x_iconst 11 dX7_numbersAt_10 rfl ?_
  refine x_istore 13 5 _ dX7_numbersAt_11 rfl (by decide) rfl rfl ?_
  exact loop (mo + 2) 0 M (by omega) (by omega) (fun _ _ _ _ => rfl) (fun _ _ _ _ => rfl) (fun _ _ _ => rfl) (fun y k h1 h2 => by omega)

theorem RP_atK {M M2 : Mem} {v : LV} {t : Int} {x : Nat} (h : RP M 0 v) (ht : 0 ≤ t ∧ t < 5) (h1 : M2 50 1 = M 50 1) (h2 : ∀ k, k ≠ t → 0 ≤ k → k < 42 → M2 51 k = M 51 k) (h3 : M2 51 t = x) : RP M2 0 (setK v (fu (vK v) t x)) := by
  have e := RP_K h t (x : Int) t ht (by omega)
  refine e.keep (by rw [up2_o _ _ _ (by omega)]; exact h1) (fun k a b => ?_)
  rw [up2_i]
  by_cases q : k = t
  · rw [if_pos q, q]; exact h3
  · rw [if_neg q]; exact h2 k q (by omega) (by omega)
theorem RP_atS {M M2 : Mem} {v : LV} {t : Int} {x : Nat} (h : RP M 0 v) (ht : 0 ≤ t ∧ t < 5) (h1 : M2 50 1 = M 50 1) (h2 : ∀ k, k ≠ 5 + t → 0 ≤ k → k < 42 → M2 51 k = M 51 k) (h3 : M2 51 (5 + t) = x) : RP M2 0 (setS v (fu (vS v) t x)) := by
  have e := RP_S h t (x : Int) (5 + t) ht (by omega)
  refine e.keep (by rw [up2_o _ _ _ (by omega)]; exact h1) (fun k a b => ?_)
  rw [up2_i]
  by_cases q : k = 5 + t
  · rw [if_pos q, q]; exact h3
  · rw [if_neg q]; exact h2 k q (by omega) (by omega)

set_option maxHeartbeats 4000000 in
theorem r_kinds {g : GG} {M : Mem} {s : ST} (hC : Mdl M s) (hO : SOK s) (t : Int) (ht : -2147483648 ≤ t ∧ t ≤ 2147483647) : CI g tX7_kinds 6 [rv g 50, iv t] M (PM M (aKinds s t) s) := by
  refine Con.of [some (rv g 50), some (iv t)] (by decide +kernel) rfl (Nat.le_of_ble_eq_true rfl) ?_
  obtain ⟨hV, ⟨hk0, hk1, hi0, hi1⟩, ⟨hT1, hT2⟩, ⟨hS1, hS2⟩, hZ, hN, hF, hKs, hMC⟩ := id hC
  obtain ⟨oV, oW, oI0, oI1, oT, oTb, oS, oSb, oZ⟩ := id hO
  have e1 : M 50 1 = vn (sV s) := hV.2.1
  have e40 : M 51 40 = vf (sV s) := hV.F (by omega)
  have e41 : M 51 41 = vw (sV s) := hV.W (by omega)
  have o1 := oV.1
  have o2 := oV.2.1
  have o3 := oV.2.2.1
  refine x_aload_n 1 0 dX7_kinds_0 rfl rfl (by decide) rfl ?_
  refine x_iload_n 2 1 dX7_kinds_1 rfl rfl (by decide) rfl ?_
  refine x_vp 5 [_] (m_isTown _ t e1 (by omega) (by omega)) mX7_isTown kX7_131 dX7_kinds_2 rfl rfl ⟨by decide, rfl⟩ rfl rfl (Nat.le_of_ble_eq_true rfl) (by decide) ?_
  refine x_ifeq_b 17 8 dX7_kinds_5 (by decide) rfl (fun h5 => ?_) (fun h5 => ?_)
  · refine x_iconst 18 dX7_kinds_17 rfl ?_
    refine x_iret dX7_kinds_18 rfl ⟨rfl, Nat.le_refl _⟩ (qi_i ?_)
    first
      | (refine PM.scr hC ?_ hSM
         unfold aKinds; rw [if_pos (by omega)]; rfl)
      | (refine PM.same hC ?_
         unfold aKinds; rw [if_neg (by omega)])
  · refine x_aload_n 9 0 dX7_kinds_8 rfl rfl (by decide) rfl ?_
    refine x_iload_n 10 1 dX7_kinds_9 rfl rfl (by decide) rfl ?_
    refine x_iconst 11 dX7_kinds_10 rfl ?_
    refine x_vi 14 [_, _] (m_numbersAt hKs (sc s).toNat (sw s) (sl s) (by omega) (by omega) (fun i hi => hS2 i (by omega) (by omega)) t (by omega) 3 (by omega) (fun x => setK (sV s) (fu (vK (sV s)) t x)) (fun x hx => setK_WF oV t x (by omega)) (fun x hx => oW) (fun M2 x hx h1 h2 h3 => RP_atK hV (by omega) h1 h2 h3)) mX7_numbersAt kX7_232 dX7_kinds_11 rfl rfl ⟨by decide, rfl⟩ rfl rfl (Nat.le_of_ble_eq_true rfl) (by decide) (fun r2 M2 q2 => ?_)
    obtain ⟨rfl, hSM, hrow⟩ := q2
    refine x_goto 18 dX7_kinds_14 (by decide) ?_
    refine x_iret dX7_kinds_18 rfl ⟨rfl, Nat.le_refl _⟩ (qi_i ?_)
    first
      | (refine PM.scr hC ?_ hSM
         unfold aKinds; rw [if_pos (by omega)]; rfl)
      | (refine PM.same hC ?_
         unfold aKinds; rw [if_neg (by omega)])

set_option maxHeartbeats 4000000 in
theorem r_strengths {g : GG} {M : Mem} {s : ST} (hC : Mdl M s) (hO : SOK s) (t : Int) (ht : -2147483648 ≤ t ∧ t ≤ 2147483647) : CI g tX7_strengths 6 [rv g 50, iv t] M (PM M (aStrengths s t) s) := by
  refine Con.of [some (rv g 50), some (iv t)] (by decide +kernel) rfl (Nat.le_of_ble_eq_true rfl) ?_
  obtain ⟨hV, ⟨hk0, hk1, hi0, hi1⟩, ⟨hT1, hT2⟩, ⟨hS1, hS2⟩, hZ, hN, hF, hKs, hMC⟩ := id hC
  obtain ⟨oV, oW, oI0, oI1, oT, oTb, oS, oSb, oZ⟩ := id hO
  have e1 : M 50 1 = vn (sV s) := hV.2.1
  have e40 : M 51 40 = vf (sV s) := hV.F (by omega)
  have e41 : M 51 41 = vw (sV s) := hV.W (by omega)
  have o1 := oV.1
  have o2 := oV.2.1
  have o3 := oV.2.2.1
  refine x_aload_n 1 0 dX7_strengths_0 rfl rfl (by decide) rfl ?_
  refine x_iload_n 2 1 dX7_strengths_1 rfl rfl (by decide) rfl ?_
  refine x_vp 5 [_] (m_isTown _ t e1 (by omega) (by omega)) mX7_isTown kX7_131 dX7_strengths_2 rfl rfl ⟨by decide, rfl⟩ rfl rfl (Nat.le_of_ble_eq_true rfl) (by decide) ?_
  refine x_ifeq_b 20 8 dX7_strengths_5 (by decide) rfl (fun h5 => ?_) (fun h5 => ?_)
  · refine x_iconst 21 dX7_strengths_20 rfl ?_
    refine x_iret dX7_strengths_21 rfl ⟨rfl, Nat.le_refl _⟩ (qi_i ?_)
    first
      | (refine PM.scr hC ?_ hSM
         unfold aStrengths; rw [if_pos (by omega)]; rfl)
      | (refine PM.same hC ?_
         unfold aStrengths; rw [if_neg (by omega)])
  · refine x_aload_n 9 0 dX7_strengths_8 rfl rfl (by decide) rfl ?_
    refine x_iconst 10 dX7_strengths_9 rfl ?_
    refine x_iload_n 11 1 dX7_strengths_10 rfl rfl (by decide) rfl ?_
    refine x_iadd 12 dX7_strengths_11 rfl ?_
    refine x_bipush 14 dX7_strengths_12 rfl (by decide) ?_
    refine x_vi 17 [_, _] (m_numbersAt hKs (sc s).toNat (sw s) (sl s) (by omega) (by omega) (fun i hi => hS2 i (by omega) (by omega)) (5 + t) (by omega) 20 (by omega) (fun x => sTry s t x) (fun x hx => sTry_WF hO t hx) (fun x hx => oW) (fun M2 x hx h1 h2 h3 => RP_atS hV (by omega) h1 h2 h3)) mX7_numbersAt kX7_232 dX7_strengths_14 rfl rfl ⟨by decide, rfl⟩ rfl rfl (Nat.le_of_ble_eq_true rfl) (by decide) (fun r2 M2 q2 => ?_)
    obtain ⟨rfl, hSM, hrow⟩ := q2
    refine x_goto 21 dX7_strengths_17 (by decide) ?_
    refine x_iret dX7_strengths_21 rfl ⟨rfl, Nat.le_refl _⟩ (qi_i ?_)
    first
      | (refine PM.scr hC ?_ hSM
         unfold aStrengths; rw [if_pos (by omega)]; rfl)
      | (refine PM.same hC ?_
         unfold aStrengths; rw [if_neg (by omega)])
