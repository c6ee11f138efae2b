set_option maxHeartbeats 4000000 in
theorem c_closeYear {g : GG} {M : Mem} {o : Nat} {v : LV} (ho : isLg o) (hR : Rep M o v) (hW : WF v) : CV g tX1_closeYear 1 [rv g o] M (fun M2 => Rep M2 o (yearEnd v) ∧ Fr o M M2) := by
  refine Con.of [some (rv g o), none] (by decide +kernel) rfl (Nat.le_of_ble_eq_true rfl) ?_
  have h1 := hW.1
  have loop : ∀ (m : Nat) (i : Int) (M2 : Mem), vn v - i < m → 0 ≤ i → i ≤ vn v → Rep M2 o (yr v i) → Fr o M M2 → X g tX1_closeYear (kk0 1) 2 [some (rv g o), some (iv i)] [] (S0, R0, M2) (QV (fun M3 => Rep M3 o (yearEnd v) ∧ Fr o M M3)) := by
    intro m
    induction m with
    | zero => intro i M2 k1 k2 k3; omega
    | succ m ih =>
      intro i M2 k1 k2 k3 hR2 hF
      have e6 : M2 o 6 = vn v := hR2.1
      have eL : 0 ≤ i → i < vn v → M2 (o + 3) i = vL v i ∧ M2 (o + 4) i = vO v i := fun a b => ⟨(hR2.2.2.2.1 i a b).2.2.1.trans (if_neg (by omega)), (hR2.2.2.2.1 i a b).2.2.2.trans (if_neg (by omega))⟩
      refine x_iload_n 3 1 dX1_closeYear_2 rfl rfl (by decide) rfl ?_
      refine x_aload_n 4 0 dX1_closeYear_3 rfl rfl (by decide) rfl ?_
      refine x_getI 7 6 6 rfl dX1_closeYear_4 rfl fX1_30 rfl (lg_s ho) (fun g4 => ?_)
      refine x_icmp_ge 51 10 dX1_closeYear_7 (by decide) rfl (by omega) (fun h7 => ?_) (fun h7 => ?_)
      · refine x_vret dX1_closeYear_51 rfl ⟨rfl, Nat.le_refl _⟩ (qv_i ?_)
        exact ⟨yr_end hR2 (by omega), hF⟩
      · obtain ⟨eL1, eL2⟩ := eL (by omega) (by omega)
        have hb := hW.2.2.2.1 i (by omega) (by omega)
        refine x_aload_n 11 0 dX1_closeYear_10 rfl rfl (by decide) rfl ?_
        refine x_getR 14 2 (o + 3) dX1_closeYear_11 rfl fX1_18 rfl (lg_s ho) (lg_r2 ho) ?_
        refine x_iload_n 15 1 dX1_closeYear_14 rfl rfl (by decide) rfl ?_
        refine x_iaload 16 dX1_closeYear_15 rfl (lg_a2 ho) (by omega) (fun g15 => ?_)
        refine x_if_ne 38 19 dX1_closeYear_16 (by decide) rfl (by omega) (fun h16 => ?_) (fun h16 => ?_)
        · refine x_aload_n 39 0 dX1_closeYear_38 rfl rfl (by decide) rfl ?_
          refine x_getR 42 2 (o + 3) dX1_closeYear_39 rfl fX1_18 rfl (lg_s ho) (lg_r2 ho) ?_
          refine x_iload_n 43 1 dX1_closeYear_42 rfl rfl (by decide) rfl ?_
          refine x_iconst 44 dX1_closeYear_43 rfl ?_
          refine x_iastore 45 dX1_closeYear_44 rfl (lg_a2 ho) (by omega) (by omega) ?_
          refine x_iinc 48 _ dX1_closeYear_45 rfl (by decide) rfl rfl rfl ?_
          refine x_goto 2 dX1_closeYear_48 (by decide) ?_
          first | exact ih (i + 1) _ (by omega) (by omega) (by omega) (yr_step0 hR2 (by omega) (by omega)) ((hF.up _ _ _ (by omega)).up _ _ _ (by omega)) | exact ih (i + 1) _ (by omega) (by omega) (by omega) (yr_step1 hR2 (by omega)) (hF.up _ _ _ (by omega))
        · refine x_aload_n 20 0 dX1_closeYear_19 rfl rfl (by decide) rfl ?_
          refine x_getR 23 3 (o + 4) dX1_closeYear_20 rfl fX1_21 rfl (lg_s ho) (lg_r3 ho) ?_
          refine x_iload_n 24 1 dX1_closeYear_23 rfl rfl (by decide) rfl ?_
          refine x_bipush 26 dX1_closeYear_24 rfl (by decide) ?_
          refine x_aload_n 27 0 dX1_closeYear_26 rfl rfl (by decide) rfl ?_
          refine x_getR 30 3 (o + 4) dX1_closeYear_27 rfl fX1_21 rfl (lg_s ho) (lg_r3 ho) ?_
          refine x_iload_n 31 1 dX1_closeYear_30 rfl rfl (by decide) rfl ?_
          refine x_iaload 32 dX1_closeYear_31 rfl (lg_a3 ho) (by omega) (fun g31 => ?_)
          refine x_iconst 33 dX1_closeYear_32 rfl ?_
          refine x_iadd 34 dX1_closeYear_33 rfl ?_
          refine x_sp 37 [_, _] (c_imin _ _ (by omega) (by omega)) mJ9_min_7cf53 kX1_71 dX1_closeYear_34 rfl rfl rfl (Nat.le_of_ble_eq_true rfl) (by decide) ?_
          refine x_iastore 38 dX1_closeYear_37 rfl (lg_a3 ho) (by omega) (by omega) ?_
          refine x_aload_n 39 0 dX1_closeYear_38 rfl rfl (by decide) rfl ?_
          refine x_getR 42 2 (o + 3) dX1_closeYear_39 rfl fX1_18 rfl (lg_s ho) (lg_r2 ho) ?_
          refine x_iload_n 43 1 dX1_closeYear_42 rfl rfl (by decide) rfl ?_
          refine x_iconst 44 dX1_closeYear_43 rfl ?_
          refine x_iastore 45 dX1_closeYear_44 rfl (lg_a2 ho) (by omega) (by omega) ?_
          refine x_iinc 48 _ dX1_closeYear_45 rfl (by decide) rfl rfl rfl ?_
          refine x_goto 2 dX1_closeYear_48 (by decide) ?_
          first | exact ih (i + 1) _ (by omega) (by omega) (by omega) (yr_step0 hR2 (by omega) (by omega)) ((hF.up _ _ _ (by omega)).up _ _ _ (by omega)) | exact ih (i + 1) _ (by omega) (by omega) (by omega) (yr_step1 hR2 (by omega)) (hF.up _ _ _ (by omega))
  refine x_iconst 1 dX1_closeYear_0 rfl ?_
  refine x_istore_n 2 1 _ dX1_closeYear_1 rfl rfl (by decide) rfl rfl ?_
  exact loop ((vn v).toNat + 1) 0 M (by omega) (by omega) (by omega) (yr_0 hR) (Fr.rf o M)

set_option maxHeartbeats 4000000 in
theorem c_passWeek {g : GG} {M : Mem} {o : Nat} {v : LV} (ho : isLg o) (hR : Rep M o v) (hW : WF v) (hw : vw v ≤ 100000) : CV g tX1_passWeek 2 [rv g o] M (fun M2 => Rep M2 o (pass v) ∧ Fr o M M2) := by
  refine Con.of [some (rv g o)] (by decide +kernel) rfl (Nat.le_of_ble_eq_true rfl) ?_
  have h1 := hW.1
  have h2 := hW.2.1
  have h3 := hW.2.2.1
  obtain ⟨e6, e7, e8, -, -⟩ := id hR
  have hpc := c_closeYear (g := g) ho hR hW
  refine x_aload_n 1 0 dX1_passWeek_0 rfl rfl (by decide) rfl ?_
  refine x_getI 4 7 7 rfl dX1_passWeek_1 rfl fX1_34 rfl (lg_s ho) (fun g1 => ?_)
  refine x_if_le 24 7 dX1_passWeek_4 (by decide) rfl (by omega) (fun h4 => ?_) (fun h4 => ?_)
  · refine x_aload_n 25 0 dX1_passWeek_24 rfl rfl (by decide) rfl ?_
    refine x_dup 26 dX1_passWeek_25 rfl rfl ?_
    refine x_getI 29 8 8 rfl dX1_passWeek_26 rfl fX1_37 rfl (lg_s ho) (fun g26 => ?_)
    refine x_iconst 30 dX1_passWeek_29 rfl ?_
    refine x_iadd 31 dX1_passWeek_30 rfl ?_
    refine x_putI 34 8 8 rfl dX1_passWeek_31 rfl fX1_37 rfl rfl (lg_s ho) (by omega) ?_
    refine x_vret dX1_passWeek_34 rfl ⟨rfl, Nat.le_refl _⟩ (qv_i ?_)
    first
      | (have hp : pass v = setW (yearEnd v) (vw v + 1) := by (unfold pass; rw [if_pos ⟨by omega, by rw [← e8, ← e7]; omega⟩])
         rw [hp]; refine ⟨?_, hF.up _ _ _ (by omega)⟩; rw [e9]; exact Rep_W hR2 _)
      | (have hp : pass v = setW v (vw v + 1) := by (unfold pass; rw [if_neg (by rw [← e8, ← e7]; omega)])
         rw [hp]; refine ⟨?_, (Fr.rf o M).up _ _ _ (by omega)⟩; rw [e8]; exact Rep_W hR _)
  · have hfn := c_fixtureNow (g := g) ho (show 0 ≤ M o 8 by omega)
    rw [if_pos (show 0 < M o 7 by omega)] at hfn
    have hmd := Int.emod_nonneg (M o 8) (show M o 7 ≠ 0 by omega)
    have hml := Int.emod_lt_of_pos (M o 8) (show 0 < M o 7 by omega)
    refine x_aload_n 8 0 dX1_passWeek_7 rfl rfl (by decide) rfl ?_
    refine x_vp 11 [] (hfn) mX1_fixtureNow kX1_77 dX1_passWeek_8 rfl (lg_s ho) ⟨by decide, rfl⟩ rfl rfl (Nat.le_of_ble_eq_true rfl) (by decide) ?_
    refine x_aload_n 12 0 dX1_passWeek_11 rfl rfl (by decide) rfl ?_
    refine x_getI 15 7 7 rfl dX1_passWeek_12 rfl fX1_34 rfl (lg_s ho) (fun g12 => ?_)
    refine x_iconst 16 dX1_passWeek_15 rfl ?_
    refine x_isub 17 dX1_passWeek_16 rfl ?_
    refine x_icmp_ne 24 20 dX1_passWeek_17 (by decide) rfl (by omega) (fun h17 => ?_) (fun h17 => ?_)
    · refine x_aload_n 25 0 dX1_passWeek_24 rfl rfl (by decide) rfl ?_
      refine x_dup 26 dX1_passWeek_25 rfl rfl ?_
      refine x_getI 29 8 8 rfl dX1_passWeek_26 rfl fX1_37 rfl (lg_s ho) (fun g26 => ?_)
      refine x_iconst 30 dX1_passWeek_29 rfl ?_
      refine x_iadd 31 dX1_passWeek_30 rfl ?_
      refine x_putI 34 8 8 rfl dX1_passWeek_31 rfl fX1_37 rfl rfl (lg_s ho) (by omega) ?_
      refine x_vret dX1_passWeek_34 rfl ⟨rfl, Nat.le_refl _⟩ (qv_i ?_)
      first
        | (have hp : pass v = setW (yearEnd v) (vw v + 1) := by (unfold pass; rw [if_pos ⟨by omega, by rw [← e8, ← e7]; omega⟩])
           rw [hp]; refine ⟨?_, hF.up _ _ _ (by omega)⟩; rw [e9]; exact Rep_W hR2 _)
        | (have hp : pass v = setW v (vw v + 1) := by (unfold pass; rw [if_neg (by rw [← e8, ← e7]; omega)])
           rw [hp]; refine ⟨?_, (Fr.rf o M).up _ _ _ (by omega)⟩; rw [e8]; exact Rep_W hR _)
    · refine x_aload_n 21 0 dX1_passWeek_20 rfl rfl (by decide) rfl ?_
      refine x_vv 24 [] (hpc) mX1_closeYear kX1_87 dX1_passWeek_21 rfl (lg_s ho) ⟨by decide, rfl⟩ rfl rfl (Nat.le_of_ble_eq_true rfl) (by decide) (fun M2 hq => ?_)
      obtain ⟨hR2, hF⟩ := hq
      have e9 : M2 o 8 = vw v := hR2.2.2.1
      refine x_aload_n 25 0 dX1_passWeek_24 rfl rfl (by decide) rfl ?_
      refine x_dup 26 dX1_passWeek_25 rfl rfl ?_
      refine x_getI 29 8 8 rfl dX1_passWeek_26 rfl fX1_37 rfl (lg_s ho) (fun g26 => ?_)
      refine x_iconst 30 dX1_passWeek_29 rfl ?_
      refine x_iadd 31 dX1_passWeek_30 rfl ?_
      refine x_putI 34 8 8 rfl dX1_passWeek_31 rfl fX1_37 rfl rfl (lg_s ho) (by omega) ?_
      refine x_vret dX1_passWeek_34 rfl ⟨rfl, Nat.le_refl _⟩ (qv_i ?_)
      first
        | (have hp : pass v = setW (yearEnd v) (vw v + 1) := by (unfold pass; rw [if_pos ⟨by omega, by rw [← e8, ← e7]; omega⟩])
           rw [hp]; refine ⟨?_, hF.up _ _ _ (by omega)⟩; rw [e9]; exact Rep_W hR2 _)
        | (have hp : pass v = setW v (vw v + 1) := by (unfold pass; rw [if_neg (by rw [← e8, ← e7]; omega)])
           rw [hp]; refine ⟨?_, (Fr.rf o M).up _ _ _ (by omega)⟩; rw [e8]; exact Rep_W hR _)
