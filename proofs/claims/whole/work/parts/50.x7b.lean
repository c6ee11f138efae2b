set_option maxHeartbeats 4000000 in
theorem m_yearsEnd {g : GG} {M : Mem} {p : Int} {v : LV} (hp : 0 ≤ p ∧ p ≤ 210) (hR : RP M p v) (hW : WF v) : CV g tX7_yearsEnd 0 [rv g 50, iv p] M (fun M3 => RP M3 p (yearEnd v) ∧ FP p M M3 ∧ M3 50 = M 50) := by
  refine Con.of [some (rv g 50), some (iv p), none, none] (by decide +kernel) rfl (Nat.le_of_ble_eq_true rfl) ?_
  have w1 := hW.1
  have w2 := hW.2.1
  have w3 := hW.2.2.1
  have e1 := hR.2.1
  have e40 := hR.2.2.1
  have e41 := hR.2.2.2.1
  have loop : ∀ (m : Nat) (i : Int) (M2 : Mem) (j3 : Option Value), vn v - i < m → 0 ≤ i → i ≤ vn v → RP M2 p (yr v i) → FP p M M2 → M2 50 = M 50 → X g tX7_yearsEnd (kk0 0) 2 [some (rv g 50), some (iv p), some (iv i), j3] [] (S0, R0, M2) (QV (fun M3 => RP M3 p (yearEnd v) ∧ FP p M M3 ∧ M3 50 = M 50)) := by
    intro m
    induction m with
    | zero => intro i M2 j3 k1 k2 k3; omega
    | succ m ih =>
      intro i M2 j3 k1 k2 k3 hR2 hF2 h50
      have e12 : M2 50 1 = vn v := hR2.2.1
      refine x_iload_n 3 2 dX7_yearsEnd_2 rfl rfl (by decide) rfl ?_
      refine x_aload_n 4 0 dX7_yearsEnd_3 rfl rfl (by decide) rfl ?_
      refine x_getI 7 1 1 rfl dX7_yearsEnd_4 rfl fX7_125 rfl rfl (fun g4 => ?_)
      refine x_icmp_ge 87 10 dX7_yearsEnd_7 (by decide) rfl (by omega) (fun h7 => ?_) (fun h7 => ?_)
      · refine x_vret dX7_yearsEnd_87 rfl ⟨rfl, Nat.le_refl _⟩ (qv_i ?_)
        exact ⟨RP_yrE hR2 (by omega), hF2, h50⟩
      · have eL : M2 51 (p + 10 + i) = vL v i := (hR2.L (by omega) (show i < vn v by omega) rfl).trans (if_neg (by omega))
        have eO : M2 51 (p + 15 + i) = vO v i := (hR2.O (by omega) (show i < vn v by omega) rfl).trans (if_neg (by omega))
        have fi := hW.2.2.2.1 i (by omega) (by omega)
        refine x_cut 45 (fun z => (z = 1 ∧ vL v i = 0 ∧ vO v i < 99) ∨ (z = 0 ∧ ¬ (vL v i = 0 ∧ vO v i < 99))) (fun tail10 => ?_) (fun z10 hz10 => ?_)
        · refine x_aload_n 11 0 dX7_yearsEnd_10 rfl rfl (by decide) rfl ?_
          refine x_getR 14 0 51 dX7_yearsEnd_11 rfl fX7_7 rfl rfl rfl ?_
          refine x_iload_n 15 1 dX7_yearsEnd_14 rfl rfl (by decide) rfl ?_
          refine x_bipush 17 dX7_yearsEnd_15 rfl (by decide) ?_
          refine x_iadd 18 dX7_yearsEnd_17 rfl ?_
          refine x_iload_n 19 2 dX7_yearsEnd_18 rfl rfl (by decide) rfl ?_
          refine x_iadd 20 dX7_yearsEnd_19 rfl ?_
          refine x_iaload 21 dX7_yearsEnd_20 rfl rfl (by omega) (fun g20 => ?_)
          rw [eL]
          refine x_if_ne 44 24 dX7_yearsEnd_21 (by decide) rfl (by omega) (fun h21 => ?_) (fun h21 => ?_)
          · refine x_iconst 45 dX7_yearsEnd_44 rfl ?_
            exact tail10 _ (by omega)
          · refine x_aload_n 25 0 dX7_yearsEnd_24 rfl rfl (by decide) rfl ?_
            refine x_getR 28 0 51 dX7_yearsEnd_25 rfl fX7_7 rfl rfl rfl ?_
            refine x_iload_n 29 1 dX7_yearsEnd_28 rfl rfl (by decide) rfl ?_
            refine x_bipush 31 dX7_yearsEnd_29 rfl (by decide) ?_
            refine x_iadd 32 dX7_yearsEnd_31 rfl ?_
            refine x_iload_n 33 2 dX7_yearsEnd_32 rfl rfl (by decide) rfl ?_
            refine x_iadd 34 dX7_yearsEnd_33 rfl ?_
            refine x_iaload 35 dX7_yearsEnd_34 rfl rfl (by omega) (fun g34 => ?_)
            rw [eO]
            refine x_bipush 37 dX7_yearsEnd_35 rfl (by decide) ?_
            refine x_icmp_ge 44 40 dX7_yearsEnd_37 (by decide) rfl (by omega) (fun h37 => ?_) (fun h37 => ?_)
            · refine x_iconst 45 dX7_yearsEnd_44 rfl ?_
              exact tail10 _ (by omega)
            · refine x_iconst 41 dX7_yearsEnd_40 rfl ?_
              refine x_goto 45 dX7_yearsEnd_41 (by decide) ?_
              exact tail10 _ (by omega)
        · refine x_istore_n 46 3 _ dX7_yearsEnd_45 rfl rfl (by decide) rfl rfl ?_
          refine x_aload_n 47 0 dX7_yearsEnd_46 rfl rfl (by decide) rfl ?_
          refine x_getR 50 0 51 dX7_yearsEnd_47 rfl fX7_7 rfl rfl rfl ?_
          refine x_iload_n 51 1 dX7_yearsEnd_50 rfl rfl (by decide) rfl ?_
          refine x_bipush 53 dX7_yearsEnd_51 rfl (by decide) ?_
          refine x_iadd 54 dX7_yearsEnd_53 rfl ?_
          refine x_iload_n 55 2 dX7_yearsEnd_54 rfl rfl (by decide) rfl ?_
          refine x_iadd 56 dX7_yearsEnd_55 rfl ?_
          refine x_dup2 57 dX7_yearsEnd_56 rfl rfl rfl ?_
          refine x_iaload 58 dX7_yearsEnd_57 rfl rfl (by omega) (fun g57 => ?_)
          rw [eO]
          refine x_cut 67 (fun z => z = z10) (fun tail58 => ?_) (fun z58 hz58 => ?_)
          · refine x_iload_n 59 3 dX7_yearsEnd_58 rfl rfl (by decide) rfl ?_
            refine x_if_eq 66 62 dX7_yearsEnd_59 (by decide) rfl (by omega) (fun h59 => ?_) (fun h59 => ?_)
            · refine x_iconst 67 dX7_yearsEnd_66 rfl ?_
              exact tail58 _ (by omega)
            · refine x_iconst 63 dX7_yearsEnd_62 rfl ?_
              refine x_goto 67 dX7_yearsEnd_63 (by decide) ?_
              exact tail58 _ (by omega)
          · subst z58
            refine x_iadd 68 dX7_yearsEnd_67 rfl ?_
            refine x_iastore 69 dX7_yearsEnd_68 rfl rfl (by omega) (by omega) ?_
            refine x_aload_n 70 0 dX7_yearsEnd_69 rfl rfl (by decide) rfl ?_
            refine x_getR 73 0 51 dX7_yearsEnd_70 rfl fX7_7 rfl rfl rfl ?_
            refine x_iload_n 74 1 dX7_yearsEnd_73 rfl rfl (by decide) rfl ?_
            refine x_bipush 76 dX7_yearsEnd_74 rfl (by decide) ?_
            refine x_iadd 77 dX7_yearsEnd_76 rfl ?_
            refine x_iload_n 78 2 dX7_yearsEnd_77 rfl rfl (by decide) rfl ?_
            refine x_iadd 79 dX7_yearsEnd_78 rfl ?_
            refine x_iconst 80 dX7_yearsEnd_79 rfl ?_
            refine x_iastore 81 dX7_yearsEnd_80 rfl rfl (by omega) (by omega) ?_
            refine x_iinc 84 _ dX7_yearsEnd_81 rfl (by decide) rfl rfl rfl ?_
            refine x_goto 2 dX7_yearsEnd_84 (by decide) ?_
            exact ih (i + 1) _ _ (by omega) (by omega) (by omega) (RP_yr hR2 (by omega) (by (repeat' split) <;> omega) rfl rfl) ((hF2.up1 _ _ (by omega)).up1 _ _ (by omega)) (by rw [up2_o _ _ _ (by omega), up2_o _ _ _ (by omega)]; exact h50)
  refine x_iconst 1 dX7_yearsEnd_0 rfl ?_
  refine x_istore_n 2 2 _ dX7_yearsEnd_1 rfl rfl (by decide) rfl rfl ?_
  exact loop ((vn v).toNat + 1) 0 M _ (by omega) (by omega) (by omega) (RP_yr0 hR) (FP.rf p M) rfl

def WkM (p : Int) (v : LV) (e : Int) (M M2 : Mem) : Prop := M2 50 16 = wkL v e ∧ M2 50 17 = (if 0 ≤ wkL v e then wr (M 50 17 + 1) else M 50 17) ∧ M2 50 18 = (if 0 < vf v ∧ e = 0 ∧ wkL v e = -4 then wr (M 50 18 + 1) else M 50 18) ∧ RP M2 p (wkV v e) ∧ FP p M M2
def gmV (v : LV) (e : Int) : LV := if 0 < vf v ∧ e = 0 then game v (vA v (vw v % vf v)) (vB v (vw v % vf v)) else v
theorem gmV_nfw (v : LV) (e : Int) : vn (gmV v e) = vn v ∧ vf (gmV v e) = vf v ∧ vw (gmV v e) = vw v := by
  unfold gmV game beat
  repeat' split
  all_goals exact ⟨rfl, rfl, rfl⟩
theorem gmV_WF {v : LV} (h : WF v) (e : Int) : WF (gmV v e) := by
  unfold gmV
  split
  · next hf =>
    have hi := now_in h hf.1
    have h5 := h.2.2.2.2 _ hi.1 hi.2
    exact game_WF h h5.1 h5.2.1
  · exact h
theorem fixN_or {v : LV} (h : WF v) : (0 < vf v ∧ fixN v = vw v % vf v ∧ 0 ≤ fixN v ∧ fixN v < vf v) ∨ (vf v = 0 ∧ fixN v = -4) := by
  have h2 := h.2.1
  unfold fixN
  by_cases hf : 0 < vf v
  · have := now_in h hf
    rw [if_pos hf]; exact Or.inl ⟨hf, rfl, this.1, this.2⟩
  · rw [if_neg hf]; exact Or.inr ⟨by omega, rfl⟩
theorem wkL_no {v : LV} {e : Int} (h : ¬ (0 < vf v ∧ e = 0)) : wkL v e = -4 := by unfold wkL; rw [if_neg h]
theorem wkL_ga {v : LV} {e : Int} (h : 0 < vf v ∧ e = 0) : wkL v e = weaker v (vA v (vw v % vf v)) (vB v (vw v % vf v)) := by unfold wkL; rw [if_pos h]

set_option maxHeartbeats 4000000 in
theorem m_weekOn {g : GG} {M : Mem} {p : Int} {v : LV} (hp : 0 ≤ p ∧ p ≤ 210) (hR : RP M p v) (hW : WF v) (hw : vw v ≤ 100000) (r q e : Int) (hr : r = 0 ∨ r = 1) (hq : M 50 19 = q) (he : 0 < vf v → (e = 0 ↔ (r = 0 ∧ fixN v ≠ q))) : CV g tX7_weekOn 3 [rv g 50, iv p, iv r] M (WkM p v e M) := by
  refine Con.of [some (rv g 50), some (iv p), some (iv r), none] (by decide +kernel) rfl (Nat.le_of_ble_eq_true rfl) ?_
  have w1 := hW.1
  have w2 := hW.2.1
  have w3 := hW.2.2.1
  have e1 := hR.2.1
  have e40 := hR.2.2.1
  have e41 := hR.2.2.2.1
  have fo := fixN_or hW
  have nfw := gmV_nfw v e
  have hWg := gmV_WF hW e
  have tail83 : ∀ (My : Mem) (v2 : LV), RP My p v2 → vw v2 = vw v → setW v2 (vw v + 1) = wkV v e → FP p M My → My 50 16 = wkL v e → My 50 17 = (if 0 ≤ wkL v e then wr (M 50 17 + 1) else M 50 17) → My 50 18 = (if 0 < vf v ∧ e = 0 ∧ wkL v e = -4 then wr (M 50 18 + 1) else M 50 18) → X g tX7_weekOn (kk0 3) 83 [some (rv g 50), some (iv p), some (iv r), some (iv (fixN v))] [] (S0, R0, My) (QV (WkM p v e M)) := by
    intro My v2 hRy hv2 hs hFy y16 y17 y18
    have y41 : My 51 (p + 41) = vw v := (hRy.W rfl).trans hv2
    refine x_aload_n 84 0 dX7_weekOn_83 rfl rfl (by decide) rfl ?_
    refine x_getR 87 0 51 dX7_weekOn_84 rfl fX7_7 rfl rfl rfl ?_
    refine x_iload_n 88 1 dX7_weekOn_87 rfl rfl (by decide) rfl ?_
    refine x_bipush 90 dX7_weekOn_88 rfl (by decide) ?_
    refine x_iadd 91 dX7_weekOn_90 rfl ?_
    refine x_dup2 92 dX7_weekOn_91 rfl rfl rfl ?_
    refine x_iaload 93 dX7_weekOn_92 rfl rfl (by omega) (fun g92 => ?_)
    rw [y41]
    refine x_iconst 94 dX7_weekOn_93 rfl ?_
    refine x_iadd 95 dX7_weekOn_94 rfl ?_
    refine x_iastore 96 dX7_weekOn_95 rfl rfl (by omega) (by omega) ?_
    refine x_vret dX7_weekOn_96 rfl ⟨rfl, Nat.le_refl _⟩ (qv_i ?_)
    refine ⟨?_, ?_, ?_, ?_, hFy.up1 _ _ (by omega)⟩
    · rw [up2_o _ _ _ (by omega)]; exact y16
    · rw [up2_o _ _ _ (by omega)]; exact y17
    · rw [up2_o _ _ _ (by omega)]; exact y18
    · rw [← hs]; exact RP_W hRy _ _ rfl
  have tail57 : ∀ (Mx : Mem), RP Mx p (gmV v e) → FP p M Mx → Mx 50 16 = wkL v e → Mx 50 17 = (if 0 ≤ wkL v e then wr (M 50 17 + 1) else M 50 17) → Mx 50 18 = (if 0 < vf v ∧ e = 0 ∧ wkL v e = -4 then wr (M 50 18 + 1) else M 50 18) → X g tX7_weekOn (kk0 3) 57 [some (rv g 50), some (iv p), some (iv r), some (iv (fixN v))] [] (S0, R0, Mx) (QV (WkM p v e M)) := by
    intro Mx hRx hFx x16 x17 x18
    have x40 : Mx 51 (p + 40) = vf v := (hRx.F rfl).trans nfw.2.1
    have hpass : wkV v e = pass (gmV v e) := rfl
    have hps : pass (gmV v e) = if 0 < vf v ∧ vw v % vf v = vf v - 1 then setW (yearEnd (gmV v e)) (vw v + 1) else setW (gmV v e) (vw v + 1) := by
      unfold pass; rw [nfw.2.1, nfw.2.2]
    refine x_iload_n 58 3 dX7_weekOn_57 rfl rfl (by decide) rfl ?_
    refine x_bipush 60 dX7_weekOn_58 rfl (by decide) ?_
    refine x_icmp_eq 83 63 dX7_weekOn_60 (by decide) rfl (by omega) (fun h60 => ?_) (fun h60 => ?_)
    · first
        | exact tail83 _ _ hR3 nfw.2.2 (by rw [hpass, hps, if_pos (by omega)]) (hFx.tr hF3) (by rw [h50]; exact x16) (by rw [h50]; exact x17) (by rw [h50]; exact x18)
        | exact tail83 _ _ hRx nfw.2.2 (by rw [hpass, hps, if_neg (by omega)]) hFx x16 x17 x18
    · refine x_iload_n 64 3 dX7_weekOn_63 rfl rfl (by decide) rfl ?_
      refine x_aload_n 65 0 dX7_weekOn_64 rfl rfl (by decide) rfl ?_
      refine x_getR 68 0 51 dX7_weekOn_65 rfl fX7_7 rfl rfl rfl ?_
      refine x_iload_n 69 1 dX7_weekOn_68 rfl rfl (by decide) rfl ?_
      refine x_bipush 71 dX7_weekOn_69 rfl (by decide) ?_
      refine x_iadd 72 dX7_weekOn_71 rfl ?_
      refine x_iaload 73 dX7_weekOn_72 rfl rfl (by omega) (fun g72 => ?_)
      rw [x40]
      refine x_iconst 74 dX7_weekOn_73 rfl ?_
      refine x_isub 75 dX7_weekOn_74 rfl ?_
      refine x_icmp_ne 83 78 dX7_weekOn_75 (by decide) rfl (by omega) (fun h75 => ?_) (fun h75 => ?_)
      · first
          | exact tail83 _ _ hR3 nfw.2.2 (by rw [hpass, hps, if_pos (by omega)]) (hFx.tr hF3) (by rw [h50]; exact x16) (by rw [h50]; exact x17) (by rw [h50]; exact x18)
          | exact tail83 _ _ hRx nfw.2.2 (by rw [hpass, hps, if_neg (by omega)]) hFx x16 x17 x18
      · refine x_aload_n 79 0 dX7_weekOn_78 rfl rfl (by decide) rfl ?_
        refine x_iload_n 80 1 dX7_weekOn_79 rfl rfl (by decide) rfl ?_
        refine x_vv 83 [_] (m_yearsEnd hp hRx hWg) mX7_yearsEnd kX7_158 dX7_weekOn_80 rfl rfl ⟨by decide, rfl⟩ rfl rfl (Nat.le_of_ble_eq_true rfl) (by decide) (fun M3 q3 => ?_)
        obtain ⟨hR3, hF3, h50⟩ := q3
        first
          | exact tail83 _ _ hR3 nfw.2.2 (by rw [hpass, hps, if_pos (by omega)]) (hFx.tr hF3) (by rw [h50]; exact x16) (by rw [h50]; exact x17) (by rw [h50]; exact x18)
          | exact tail83 _ _ hRx nfw.2.2 (by rw [hpass, hps, if_neg (by omega)]) hFx x16 x17 x18
  refine x_aload_n 1 0 dX7_weekOn_0 rfl rfl (by decide) rfl ?_
  refine x_iload_n 2 1 dX7_weekOn_1 rfl rfl (by decide) rfl ?_
  refine x_vp 5 [_] (m_placeOn hp hR hW) mX7_placeOn kX7_151 dX7_weekOn_2 rfl rfl ⟨by decide, rfl⟩ rfl rfl (Nat.le_of_ble_eq_true rfl) (by decide) ?_
  refine x_istore_n 6 3 _ dX7_weekOn_5 rfl rfl (by decide) rfl rfl ?_
  refine x_aload_n 7 0 dX7_weekOn_6 rfl rfl (by decide) rfl ?_
  refine x_bipush 9 dX7_weekOn_7 rfl (by decide) ?_
  refine x_putI 12 16 16 rfl dX7_weekOn_9 rfl fX7_142 rfl rfl rfl (by omega) ?_
  refine x_mem (fun M1 => M1 50 16 = -4 ∧ RP M1 p v ∧ FP p M M1 ∧ M1 50 17 = M 50 17 ∧ M1 50 18 = M 50 18 ∧ M1 50 19 = q) ⟨up2_s _ _ _ _, hR.up0 _ _ (by omega), (FP.rf p M).up0 _ _ (by omega), up2_k _ _ _ (by omega), up2_k _ _ _ (by omega), (up2_k _ _ _ (by omega)).trans hq⟩ (fun M1 hM1 => ?_)
  obtain ⟨h16, hR1, hF1, h17, h18, h19⟩ := hM1
  refine x_iload_n 13 3 dX7_weekOn_12 rfl rfl (by decide) rfl ?_
  refine x_bipush 15 dX7_weekOn_13 rfl (by decide) ?_
  refine x_icmp_eq 57 18 dX7_weekOn_15 (by decide) rfl (by omega) (fun h15 => ?_) (fun h15 => ?_)
  · first
      | (have hnp : ¬ (0 < vf v ∧ e = 0) := by omega
         have hgv : gmV v e = v := by (unfold gmV; rw [if_neg hnp])
         refine tail57 _ (by rw [hgv]; exact hR1) hF1 (by rw [wkL_no hnp]; exact h16) ?_ ?_
         · rw [wkL_no hnp, if_neg (by omega)]; exact h17
         · rw [if_neg (fun q => hnp ⟨q.1, q.2.1⟩)]; exact h18)
      | (have hgv : gmV v e = game v (vA v (fixN v)) (vB v (fixN v)) := by (unfold gmV; rw [if_pos hpl]; rw [show vw v % vf v = fixN v by omega])
         have hgl : wkL v e = weaker v (vA v (fixN v)) (vB v (fixN v)) := by (rw [wkL_ga hpl]; rw [show vw v % vf v = fixN v by omega])
         refine tail57 _ (by rw [hgv]; exact hR2) (hF1.tr hF2) (by rw [hgl]; exact p16) ?_ ?_
         · rw [p17, hgl, h17]
         · rw [p18, hgl, h18]
           by_cases hz : weaker v (vA v (fixN v)) (vB v (fixN v)) = -4
           · rw [if_pos hz, if_pos ⟨hpl.1, hpl.2, hz⟩]
           · rw [if_neg hz, if_neg (fun q => hz q.2.2)])
  · refine x_iload_n 19 3 dX7_weekOn_18 rfl rfl (by decide) rfl ?_
    refine x_aload_n 20 0 dX7_weekOn_19 rfl rfl (by decide) rfl ?_
    refine x_getI 23 19 19 rfl dX7_weekOn_20 rfl fX7_25 rfl rfl (fun g20 => ?_)
    rw [h19]
    refine x_icmp_eq 57 26 dX7_weekOn_23 (by decide) rfl (by omega) (fun h23 => ?_) (fun h23 => ?_)
    · first
        | (have hnp : ¬ (0 < vf v ∧ e = 0) := by omega
           have hgv : gmV v e = v := by (unfold gmV; rw [if_neg hnp])
           refine tail57 _ (by rw [hgv]; exact hR1) hF1 (by rw [wkL_no hnp]; exact h16) ?_ ?_
           · rw [wkL_no hnp, if_neg (by omega)]; exact h17
           · rw [if_neg (fun q => hnp ⟨q.1, q.2.1⟩)]; exact h18)
        | (have hgv : gmV v e = game v (vA v (fixN v)) (vB v (fixN v)) := by (unfold gmV; rw [if_pos hpl]; rw [show vw v % vf v = fixN v by omega])
           have hgl : wkL v e = weaker v (vA v (fixN v)) (vB v (fixN v)) := by (rw [wkL_ga hpl]; rw [show vw v % vf v = fixN v by omega])
           refine tail57 _ (by rw [hgv]; exact hR2) (hF1.tr hF2) (by rw [hgl]; exact p16) ?_ ?_
           · rw [p17, hgl, h17]
           · rw [p18, hgl, h18]
             by_cases hz : weaker v (vA v (fixN v)) (vB v (fixN v)) = -4
             · rw [if_pos hz, if_pos ⟨hpl.1, hpl.2, hz⟩]
             · rw [if_neg hz, if_neg (fun q => hz q.2.2)])
    · refine x_iload_n 27 2 dX7_weekOn_26 rfl rfl (by decide) rfl ?_
      refine x_if_ne 57 30 dX7_weekOn_27 (by decide) rfl (by omega) (fun h27 => ?_) (fun h27 => ?_)
      · first
          | (have hnp : ¬ (0 < vf v ∧ e = 0) := by omega
             have hgv : gmV v e = v := by (unfold gmV; rw [if_neg hnp])
             refine tail57 _ (by rw [hgv]; exact hR1) hF1 (by rw [wkL_no hnp]; exact h16) ?_ ?_
             · rw [wkL_no hnp, if_neg (by omega)]; exact h17
             · rw [if_neg (fun q => hnp ⟨q.1, q.2.1⟩)]; exact h18)
          | (have hgv : gmV v e = game v (vA v (fixN v)) (vB v (fixN v)) := by (unfold gmV; rw [if_pos hpl]; rw [show vw v % vf v = fixN v by omega])
             have hgl : wkL v e = weaker v (vA v (fixN v)) (vB v (fixN v)) := by (rw [wkL_ga hpl]; rw [show vw v % vf v = fixN v by omega])
             refine tail57 _ (by rw [hgv]; exact hR2) (hF1.tr hF2) (by rw [hgl]; exact p16) ?_ ?_
             · rw [p17, hgl, h17]
             · rw [p18, hgl, h18]
               by_cases hz : weaker v (vA v (fixN v)) (vB v (fixN v)) = -4
               · rw [if_pos hz, if_pos ⟨hpl.1, hpl.2, hz⟩]
               · rw [if_neg hz, if_neg (fun q => hz q.2.2)])
      · have hpl : 0 < vf v ∧ e = 0 := by omega
        have h5 := hW.2.2.2.2 (fixN v) (by omega) (by omega)
        have eA : M1 51 (p + 20 + fixN v) = vA v (fixN v) := hR1.A (by omega) (by omega) rfl
        have eB : M1 51 (p + 30 + fixN v) = vB v (fixN v) := hR1.B (by omega) (by omega) rfl
        refine x_aload_n 31 0 dX7_weekOn_30 rfl rfl (by decide) rfl ?_
        refine x_iload_n 32 1 dX7_weekOn_31 rfl rfl (by decide) rfl ?_
        refine x_aload_n 33 0 dX7_weekOn_32 rfl rfl (by decide) rfl ?_
        refine x_getR 36 0 51 dX7_weekOn_33 rfl fX7_7 rfl rfl rfl ?_
        refine x_iload_n 37 1 dX7_weekOn_36 rfl rfl (by decide) rfl ?_
        refine x_bipush 39 dX7_weekOn_37 rfl (by decide) ?_
        refine x_iadd 40 dX7_weekOn_39 rfl ?_
        refine x_iload_n 41 3 dX7_weekOn_40 rfl rfl (by decide) rfl ?_
        refine x_iadd 42 dX7_weekOn_41 rfl ?_
        refine x_iaload 43 dX7_weekOn_42 rfl rfl (by omega) (fun g42 => ?_)
        rw [eA]
        refine x_aload_n 44 0 dX7_weekOn_43 rfl rfl (by decide) rfl ?_
        refine x_getR 47 0 51 dX7_weekOn_44 rfl fX7_7 rfl rfl rfl ?_
        refine x_iload_n 48 1 dX7_weekOn_47 rfl rfl (by decide) rfl ?_
        refine x_bipush 50 dX7_weekOn_48 rfl (by decide) ?_
        refine x_iadd 51 dX7_weekOn_50 rfl ?_
        refine x_iload_n 52 3 dX7_weekOn_51 rfl rfl (by decide) rfl ?_
        refine x_iadd 53 dX7_weekOn_52 rfl ?_
        refine x_iaload 54 dX7_weekOn_53 rfl rfl (by omega) (fun g53 => ?_)
        rw [eB]
        refine x_vv 57 [_, _, _] (m_playedOn hp hR1 hW _ _ h5.1 h5.2.1 h5.2.2) mX7_playedOn kX7_154 dX7_weekOn_54 rfl rfl ⟨by decide, rfl⟩ rfl rfl (Nat.le_of_ble_eq_true rfl) (by decide) (fun M2 q2 => ?_)
        obtain ⟨p16, p17, p18, hR2, hF2⟩ := q2
        first
          | (have hnp : ¬ (0 < vf v ∧ e = 0) := by omega
             have hgv : gmV v e = v := by (unfold gmV; rw [if_neg hnp])
             refine tail57 _ (by rw [hgv]; exact hR1) hF1 (by rw [wkL_no hnp]; exact h16) ?_ ?_
             · rw [wkL_no hnp, if_neg (by omega)]; exact h17
             · rw [if_neg (fun q => hnp ⟨q.1, q.2.1⟩)]; exact h18)
          | (have hgv : gmV v e = game v (vA v (fixN v)) (vB v (fixN v)) := by (unfold gmV; rw [if_pos hpl]; rw [show vw v % vf v = fixN v by omega])
             have hgl : wkL v e = weaker v (vA v (fixN v)) (vB v (fixN v)) := by (rw [wkL_ga hpl]; rw [show vw v % vf v = fixN v by omega])
             refine tail57 _ (by rw [hgv]; exact hR2) (hF1.tr hF2) (by rw [hgl]; exact p16) ?_ ?_
             · rw [p17, hgl, h17]
             · rw [p18, hgl, h18]
               by_cases hz : weaker v (vA v (fixN v)) (vB v (fixN v)) = -4
               · rw [if_pos hz, if_pos ⟨hpl.1, hpl.2, hz⟩]
               · rw [if_neg hz, if_neg (fun q => hz q.2.2)])

theorem m_week {g : GG} {M : Mem} {p : Int} {v : LV} (hp : 0 ≤ p ∧ p ≤ 210) (hR : RP M p v) (hW : WF v) (hw : vw v ≤ 100000) (r : Int) (hr : r = 0 ∨ r = 1) (hq : M 50 19 = -4) : CV g tX7_weekOn 3 [rv g 50, iv p, iv r] M (WkM p v r M) :=
  m_weekOn hp hR hW hw r (-4) r hr hq (fun h => by have fo := fixN_or hW; omega)

set_option maxHeartbeats 4000000 in
theorem m_copies {g : GG} {M : Mem} (f t : Int) (hf : 0 ≤ f ∧ f ≤ 210) (ht : 0 ≤ t ∧ t ≤ 210) (hd : f + 42 ≤ t ∨ t + 42 ≤ f) : CV g tX7_copies 0 [rv g 50, iv f, iv t] M (CPY f t M) := by
  refine Con.of [some (rv g 50), some (iv f), some (iv t), none] (by decide +kernel) rfl (Nat.le_of_ble_eq_true rfl) ?_
  refine x_rng (fun hrg => ?_)
  have loop : ∀ (m : Nat) (k : Int) (M2 : Mem), 42 - k < m → 0 ≤ k → k ≤ 42 → (∀ a, a ≠ 51 → M2 a = M a) → (∀ j, 0 ≤ j → j < k → M2 51 (t + j) = M 51 (f + j)) → (∀ j, (j < t ∨ t + k ≤ j) → M2 51 j = M 51 j) → X g tX7_copies (kk0 0) 2 [some (rv g 50), some (iv f), some (iv t), some (iv k)] [] (S0, R0, M2) (QV (CPY f t M)) := by
    intro m
    induction m with
    | zero => intro k M2 k1 k2 k3; omega
    | succ m ih =>
      intro k M2 k1 k2 k3 c1 c2 c3
      refine x_iload_n 3 3 dX7_copies_2 rfl rfl (by decide) rfl ?_
      refine x_bipush 5 dX7_copies_3 rfl (by decide) ?_
      refine x_icmp_ge 30 8 dX7_copies_5 (by decide) rfl (by omega) (fun h5 => ?_) (fun h5 => ?_)
      · refine x_vret dX7_copies_30 rfl ⟨rfl, Nat.le_refl _⟩ (qv_i ?_)
        have hk : k = 42 := by omega
        subst hk
        exact ⟨c1, c2, c3⟩
      · refine x_aload_n 9 0 dX7_copies_8 rfl rfl (by decide) rfl ?_
        refine x_getR 12 0 51 dX7_copies_9 rfl fX7_7 rfl rfl rfl ?_
        refine x_iload_n 13 2 dX7_copies_12 rfl rfl (by decide) rfl ?_
        refine x_iload_n 14 3 dX7_copies_13 rfl rfl (by decide) rfl ?_
        refine x_iadd 15 dX7_copies_14 rfl ?_
        refine x_aload_n 16 0 dX7_copies_15 rfl rfl (by decide) rfl ?_
        refine x_getR 19 0 51 dX7_copies_16 rfl fX7_7 rfl rfl rfl ?_
        refine x_iload_n 20 1 dX7_copies_19 rfl rfl (by decide) rfl ?_
        refine x_iload_n 21 3 dX7_copies_20 rfl rfl (by decide) rfl ?_
        refine x_iadd 22 dX7_copies_21 rfl ?_
        refine x_iaload 23 dX7_copies_22 rfl rfl (by omega) (fun g22 => ?_)
        rw [c3 (f + k) (by omega)]
        have cr := hrg 51 (f + k)
        refine x_iastore 24 dX7_copies_23 rfl rfl (by omega) (by omega) ?_
        refine x_iinc 27 _ dX7_copies_24 rfl (by decide) rfl rfl rfl ?_
        refine x_goto 2 dX7_copies_27 (by decide) ?_
        refine ih (k + 1) _ (by omega) (by omega) (by omega) (fun a ha => ?_) (fun j h1 h2 => ?_) (fun j hj => ?_)
        · rw [up2_o _ _ _ ha]; exact c1 a ha
        · rw [up2_i]
          by_cases e : j = k
          · rw [if_pos (by omega), e]
          · rw [if_neg (by omega)]; exact c2 j h1 (by omega)
        · rw [up2_k _ _ _ (by omega)]; exact c3 j (by omega)
  refine x_iconst 1 dX7_copies_0 rfl ?_
  refine x_istore_n 2 3 _ dX7_copies_1 rfl rfl (by decide) rfl rfl ?_
  exact loop 43 0 M (by omega) (by omega) (by omega) (fun _ _ => rfl) (fun j h1 h2 => by omega) (fun _ _ => rfl)

set_option maxHeartbeats 4000000 in
theorem m_owedOn {g : GG} {M : Mem} {p : Int} {v : LV} (hp : 0 ≤ p ∧ p ≤ 210) (hR : RP M p v) (hW : WF v) : CP g tX7_owedOn 0 [rv g 50, iv p] M (owed v) := by
  refine Con.of [some (rv g 50), some (iv p), none, none] (by decide +kernel) rfl (Nat.le_of_ble_eq_true rfl) ?_
  have w1 := hW.1
  have w2 := hW.2.1
  have w3 := hW.2.2.1
  have e1 := hR.2.1
  have e40 := hR.2.2.1
  have e41 := hR.2.2.2.1
  have loop : ∀ (m k : Nat), (vn v).toNat - k < m → k ≤ (vn v).toNat → X g tX7_owedOn (kk0 0) 4 [some (rv g 50), some (iv p), some (iv (sumN (vO v) k)), some (iv k)] [] (S0, R0, M) (QP M (owed v)) := by
    intro m
    induction m with
    | zero => intro k k1 k2; omega
    | succ m ih =>
      intro k k1 k2
      refine x_iload_n 5 3 dX7_owedOn_4 rfl rfl (by decide) rfl ?_
      refine x_aload_n 6 0 dX7_owedOn_5 rfl rfl (by decide) rfl ?_
      refine x_getI 9 1 1 rfl dX7_owedOn_6 rfl fX7_125 rfl rfl (fun g6 => ?_)
      refine x_icmp_ge 32 12 dX7_owedOn_9 (by decide) rfl (by omega) (fun h9 => ?_) (fun h9 => ?_)
      · refine x_iload_n 33 2 dX7_owedOn_32 rfl rfl (by decide) rfl ?_
        refine x_iret dX7_owedOn_33 rfl ⟨rfl, Nat.le_refl _⟩ (qp_i ?_ rfl)
        have hk : k = (vn v).toNat := by omega
        rw [hk]; rfl
      · have eO : M 51 (p + 15 + (k : Int)) = vO v k := hR.O (by omega) (by omega) rfl
        refine x_iload_n 13 2 dX7_owedOn_12 rfl rfl (by decide) rfl ?_
        refine x_aload_n 14 0 dX7_owedOn_13 rfl rfl (by decide) rfl ?_
        refine x_getR 17 0 51 dX7_owedOn_14 rfl fX7_7 rfl rfl rfl ?_
        refine x_iload_n 18 1 dX7_owedOn_17 rfl rfl (by decide) rfl ?_
        refine x_bipush 20 dX7_owedOn_18 rfl (by decide) ?_
        refine x_iadd 21 dX7_owedOn_20 rfl ?_
        refine x_iload_n 22 3 dX7_owedOn_21 rfl rfl (by decide) rfl ?_
        refine x_iadd 23 dX7_owedOn_22 rfl ?_
        refine x_iaload 24 dX7_owedOn_23 rfl rfl (by omega) (fun g23 => ?_)
        rw [eO]
        refine x_iadd 25 dX7_owedOn_24 rfl ?_
        refine x_istore_n 26 2 _ dX7_owedOn_25 rfl rfl (by decide) rfl rfl ?_
        refine x_iinc 29 _ dX7_owedOn_26 rfl (by decide) rfl rfl rfl ?_
        refine x_goto 4 dX7_owedOn_29 (by decide) ?_
        exact ih (k + 1) (by omega) (by omega)
  refine x_iconst 1 dX7_owedOn_0 rfl ?_
  refine x_istore_n 2 2 _ dX7_owedOn_1 rfl rfl (by decide) rfl rfl ?_
  refine x_iconst 3 dX7_owedOn_2 rfl ?_
  refine x_istore_n 4 3 _ dX7_owedOn_3 rfl rfl (by decide) rfl rfl ?_
  exact loop ((vn v).toNat + 1) 0 (by omega) (by omega)

theorem or_if {a k : Nat} {c : Prop} [Decidable c] (h : a < 2 ^ k) : Int32.ofInt (a : Int) ||| Int32.ofInt ((if c then 2 ^ k else 0 : Nat) : Int) = Int32.ofInt ((a + (if c then 2 ^ k else 0) : Nat) : Int) := by
  by_cases hc : c
  · rw [if_pos hc]; exact or_bit h
  · rw [if_neg hc, Nat.add_zero, iN, iN, nI_or, Nat.or_zero]

set_option maxHeartbeats 4000000 in
theorem m_losersOn {g : GG} {M : Mem} {p : Int} {v : LV} (hp : 0 ≤ p ∧ p ≤ 210) (hR : RP M p v) (hW : WF v) : CP g tX7_losersOn 0 [rv g 50, iv p] M (lossB v) := by
  refine Con.of [some (rv g 50), some (iv p), none, none] (by decide +kernel) rfl (Nat.le_of_ble_eq_true rfl) ?_
  have w1 := hW.1
  have w2 := hW.2.1
  have w3 := hW.2.2.1
  have e1 := hR.2.1
  have e40 := hR.2.2.1
  have e41 := hR.2.2.2.1
  have loop : ∀ (m k : Nat), (vn v).toNat - k < m → k ≤ (vn v).toNat → X g tX7_losersOn (kk0 0) 4 [some (rv g 50), some (iv p), some (iv (bitN (fun t => decide (0 < vL v t)) k)), some (iv k)] [] (S0, R0, M) (QP M (lossB v)) := by
    intro m
    induction m with
    | zero => intro k k1 k2; omega
    | succ m ih =>
      intro k k1 k2
      have hbn := bitN_lt (fun t => decide (0 < vL v t)) k
      refine x_iload_n 5 3 dX7_losersOn_4 rfl rfl (by decide) rfl ?_
      refine x_aload_n 6 0 dX7_losersOn_5 rfl rfl (by decide) rfl ?_
      refine x_getI 9 1 1 rfl dX7_losersOn_6 rfl fX7_125 rfl rfl (fun g6 => ?_)
      refine x_icmp_ge 42 12 dX7_losersOn_9 (by decide) rfl (by omega) (fun h9 => ?_) (fun h9 => ?_)
      · refine x_iload_n 43 2 dX7_losersOn_42 rfl rfl (by decide) rfl ?_
        refine x_iret dX7_losersOn_43 rfl ⟨rfl, Nat.le_refl _⟩ (qp_i ?_ rfl)
        have hk : k = (vn v).toNat := by omega
        rw [hk]; rfl
      · have eL : M 51 (p + 10 + (k : Int)) = vL v k := hR.L (by omega) (by omega) rfl
        refine x_iload_n 13 2 dX7_losersOn_12 rfl rfl (by decide) rfl ?_
        refine x_cut 34 (fun z => z = ((if decide (0 < vL v k) = true then 2 ^ k else 0 : Nat) : Int)) (fun tail13 => ?_) (fun z13 hz13 => ?_)
        · refine x_aload_n 14 0 dX7_losersOn_13 rfl rfl (by decide) rfl ?_
          refine x_getR 17 0 51 dX7_losersOn_14 rfl fX7_7 rfl rfl rfl ?_
          refine x_iload_n 18 1 dX7_losersOn_17 rfl rfl (by decide) rfl ?_
          refine x_bipush 20 dX7_losersOn_18 rfl (by decide) ?_
          refine x_iadd 21 dX7_losersOn_20 rfl ?_
          refine x_iload_n 22 3 dX7_losersOn_21 rfl rfl (by decide) rfl ?_
          refine x_iadd 23 dX7_losersOn_22 rfl ?_
          refine x_iaload 24 dX7_losersOn_23 rfl rfl (by omega) (fun g23 => ?_)
          rw [eL]
          refine x_if_le 33 27 dX7_losersOn_24 (by decide) rfl (by omega) (fun h24 => ?_) (fun h24 => ?_)
          · refine x_iconst 34 dX7_losersOn_33 rfl ?_
            exact tail13 _ (by first | rw [if_pos (decide_eq_true (by omega))] | (rw [if_neg (by rw [decide_eq_true_eq]; omega)]; rfl))
          · refine x_iconst 28 dX7_losersOn_27 rfl ?_
            refine x_iload_n 29 3 dX7_losersOn_28 rfl rfl (by decide) rfl ?_
            refine x_ishl 30 ((2 ^ k : Nat) : Int) dX7_losersOn_29 rfl (shl1 (by omega)) ?_
            refine x_goto 34 dX7_losersOn_30 (by decide) ?_
            exact tail13 _ (by first | rw [if_pos (decide_eq_true (by omega))] | (rw [if_neg (by rw [decide_eq_true_eq]; omega)]; rfl))
        · subst z13
          refine x_ior 35 ((bitN (fun t => decide (0 < vL v t)) k + (if decide (0 < vL v k) = true then 2 ^ k else 0) : Nat) : Int) dX7_losersOn_34 rfl (or_if hbn) ?_
          refine x_istore_n 36 2 _ dX7_losersOn_35 rfl rfl (by decide) rfl rfl ?_
          refine x_iinc 39 _ dX7_losersOn_36 rfl (by decide) rfl rfl rfl ?_
          refine x_goto 4 dX7_losersOn_39 (by decide) ?_
          exact ih (k + 1) (by omega) (by omega)
  refine x_iconst 1 dX7_losersOn_0 rfl ?_
  refine x_istore_n 2 2 _ dX7_losersOn_1 rfl rfl (by decide) rfl rfl ?_
  refine x_iconst 3 dX7_losersOn_2 rfl ?_
  refine x_istore_n 4 3 _ dX7_losersOn_3 rfl rfl (by decide) rfl rfl ?_
  exact loop ((vn v).toNat + 1) 0 (by omega) (by omega)
