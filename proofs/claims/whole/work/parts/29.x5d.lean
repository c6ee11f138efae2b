/-- a draft behind k lines -/
def DI (d : LV) (k : Int) : Prop := (0 ≤ vn d ∧ vn d ≤ 5) ∧ (0 ≤ vf d ∧ vf d ≤ 10) ∧ vn d + vf d = k ∧ vw d = 0 ∧ (∀ t, 0 ≤ t → t < vn d → (0 ≤ vK d t ∧ vK d t ≤ 3) ∧ (0 ≤ vS d t ∧ vS d t ≤ 20) ∧ vL d t = 0 ∧ vO d t = 0) ∧ (∀ i, 0 ≤ i → i < vf d → (0 ≤ vA d i ∧ vA d i ≤ 4) ∧ (0 ≤ vB d i ∧ vB d i ≤ 4) ∧ vA d i ≠ vB d i)
theorem DI_0 : DI LV0 0 := ⟨⟨by decide, by decide⟩, ⟨by decide, by decide⟩, rfl, rfl, fun t a b => by have b : t < 0 := b; omega, fun t a b => by have b : t < 0 := b; omega⟩
theorem DI_T {d : LV} {k w s : Int} (h : DI d k) (hn : vn d < 5) (hw : 0 ≤ w ∧ w ≤ 3) (hs : 0 ≤ s ∧ s ≤ 20) : DI (addT d w s) (k + 1) := by
  obtain ⟨h1, h2, h3, h4, h5, h6⟩ := h
  refine ⟨?_, h2, ?_, h4, fun t a b => ?_, h6⟩
  · show 0 ≤ vn d + 1 ∧ vn d + 1 ≤ 5
    omega
  · show vn d + 1 + vf d = k + 1
    omega
  · show (0 ≤ fu (vK d) (vn d) w t ∧ fu (vK d) (vn d) w t ≤ 3) ∧ (0 ≤ fu (vS d) (vn d) s t ∧ fu (vS d) (vn d) s t ≤ 20) ∧ fu (vL d) (vn d) 0 t = 0 ∧ fu (vO d) (vn d) 0 t = 0
    have b : t < vn d + 1 := b
    by_cases e : t = vn d
    · subst e; rw [fu_s, fu_s, fu_s, fu_s]; exact ⟨hw, hs, rfl, rfl⟩
    · rw [fu_n _ _ e, fu_n _ _ e, fu_n _ _ e, fu_n _ _ e]; exact h5 t a (by omega)
theorem DI_F {d : LV} {k x y : Int} (h : DI d k) (hn : vf d < 10) (hx : 0 ≤ x ∧ x ≤ 4) (hy : 0 ≤ y ∧ y ≤ 4) (hne : x ≠ y) : DI (addF d x y) (k + 1) := by
  obtain ⟨h1, h2, h3, h4, h5, h6⟩ := h
  refine ⟨h1, ?_, ?_, h4, h5, fun t a b => ?_⟩
  · show 0 ≤ vf d + 1 ∧ vf d + 1 ≤ 10
    omega
  · show vn d + (vf d + 1) = k + 1
    omega
  · show (0 ≤ fu (vA d) (vf d) x t ∧ fu (vA d) (vf d) x t ≤ 4) ∧ (0 ≤ fu (vB d) (vf d) y t ∧ fu (vB d) (vf d) y t ≤ 4) ∧ fu (vA d) (vf d) x t ≠ fu (vB d) (vf d) y t
    have b : t < vf d + 1 := b
    by_cases e : t = vf d
    · subst e; rw [fu_s, fu_s]; exact ⟨hx, hy, hne⟩
    · rw [fu_n _ _ e, fu_n _ _ e]; exact h6 t a (by omega)
theorem lnT_ok {b : Int → Int} {n p w s0 k : Int} {d : LV} (hp : 0 ≤ p ∧ p ≤ n) (hd : DI d k) (hw : 0 ≤ w ∧ w ≤ 3) (h : (lnT b n d w s0 p).1 = 0) : lnT b n d w s0 p = (0, 0, tkE b n (tkE b n p), addT d w (tkV b n p)) ∧ DI (addT d w (tkV b n p)) (k + 1) ∧ (0 ≤ tkE b n (tkE b n p) ∧ tkE b n (tkE b n p) ≤ n) ∧ vn d < 5 := by
  have hS := tkS_le (b := b) hp.2
  have hE := tkE_le (b := b) hp.2
  have hS2 := tkS_le (b := b) hE.2
  have hE2 := tkE_le (b := b) hE.2
  unfold lnT at h ⊢
  split at h
  · have h : (5 : Int) = 0 := h; omega
  · next h5 =>
    split at h
    · next h6 => exact absurd h h6
    · next h6 =>
      split at h
      · next h7 => exact absurd h h7
      · next h7 =>
        have nz := numO_0 (Decidable.not_not.mp h6)
        have vb := tkV_bd hp.2 nz.1
        rw [if_neg h5, if_neg h6, if_neg h7]
        exact ⟨rfl, DI_T hd (by omega) hw ⟨vb.1, nz.2.2⟩, by omega, by omega⟩
theorem lnG_ok {b : Int → Int} {n p s0 k : Int} {d : LV} (hp : 0 ≤ p ∧ p ≤ n) (hd : DI d k) (h : (lnG b n d s0 p).1 = 0) : lnG b n d s0 p = (0, 0, tkE b n (tkE b n (tkE b n p)), addF d (tkV b n p) (tkV b n (tkE b n p))) ∧ DI (addF d (tkV b n p) (tkV b n (tkE b n p))) (k + 1) ∧ (0 ≤ tkE b n (tkE b n (tkE b n p)) ∧ tkE b n (tkE b n (tkE b n p)) ≤ n) ∧ vf d < 10 := by
  have hS := tkS_le (b := b) hp.2
  have hE := tkE_le (b := b) hp.2
  have hS2 := tkS_le (b := b) hE.2
  have hE2 := tkE_le (b := b) hE.2
  have hS3 := tkS_le (b := b) hE2.2
  have hE3 := tkE_le (b := b) hE2.2
  unfold lnG at h ⊢
  split at h
  · have h : (5 : Int) = 0 := h; omega
  · next h5 =>
    split at h
    · next h6 => exact absurd h h6
    · next h6 =>
      split at h
      · next h7 => exact absurd h h7
      · next h7 =>
        split at h
        · have h : (3 : Int) = 0 := h; omega
        · next h8 =>
          split at h
          · next h9 => exact absurd h h9
          · next h9 =>
            have nz := numO_0 (Decidable.not_not.mp h6)
            have nz2 := numO_0 (Decidable.not_not.mp h7)
            have vb := tkV_bd hp.2 nz.1
            have vb2 := tkV_bd hE.2 nz2.1
            rw [if_neg h5, if_neg h6, if_neg h7, if_neg h8, if_neg h9]
            exact ⟨rfl, DI_F hd (by omega) ⟨vb.1, nz.2.2⟩ ⟨vb2.1, nz2.2.2⟩ h8, by omega, by omega⟩
/-- a good line: where it ends, what it adds; there was room for it -/
theorem lnP_ok {b : Int → Int} {n p k : Int} {d : LV} (hp : 0 ≤ p ∧ p ≤ n) (hd : DI d k) (h : (lnP b n d p).1 = 0) : DI (lnP b n d p).2.2.2 (k + 1) ∧ (0 ≤ (lnP b n d p).2.2.1 ∧ (lnP b n d p).2.2.1 ≤ n) := by
  have hS := tkS_le (b := b) hp.2
  have hE := tkE_le (b := b) hp.2
  have hin := lnW_in b n p
  unfold lnP at h ⊢
  split at h
  · have h : (2 : Int) = 0 := h; omega
  · next h1 =>
    split at h
    · next h2 =>
      have q := lnG_ok (p := tkE b n p) ⟨by omega, hE.2⟩ hd h
      rw [if_neg h1, if_pos h2, q.1]
      exact ⟨q.2.1, q.2.2.1⟩
    · next h2 =>
      have q := lnT_ok (p := tkE b n p) ⟨by omega, hE.2⟩ hd (by omega) h
      rw [if_neg h1, if_neg h2, q.1]
      exact ⟨q.2.1, q.2.2.1⟩

set_option maxHeartbeats 4000000 in
theorem c_readAll {g : GG} {M : Mem} {n : Int} {b : Int → Int} {o : Nat} (hT : TP M n b) (ho : isLg o) : CI g tX5_readAll 7 [rv g 1, rv g o] M (fun r M3 => (∀ a, a ≠ 1 → (a < o ∨ o + 6 < a) → M3 a = M a) ∧ M3 1 5 = (prs b n 16 0 LV0 0).1 ∧ ((prs b n 16 0 LV0 0).1 ≠ 0 → M3 1 6 = (prs b n 16 0 LV0 0).2.1) ∧ ((prs b n 16 0 LV0 0).1 = 0 → r = (prs b n 16 0 LV0 0).2.2.1 ∧ Rep M3 o (prs b n 16 0 LV0 0).2.2.2)) := by
  refine Con.of [some (rv g 1), some (rv g o), none, none] (by decide +kernel) rfl (Nat.le_of_ble_eq_true rfl) ?_
  have hn := hT.2.1
  have hge := lg_ge ho
  have loop : ∀ (f k : Nat) (q : Int) (d : LV) (M2 : Mem) (jk : Option Value), f + k = 16 → DI d k → (0 ≤ q ∧ q ≤ n) → M2 1 1 = q → M2 1 5 = 0 → Rep M2 o d → (∀ a, a ≠ 1 → (a < o ∨ o + 6 < a) → M2 a = M a) → prs b n f q d k = prs b n 16 0 LV0 0 → X g tX5_readAll (kk0 7) 21 [some (rv g 1), some (rv g o), some (iv k), jk] [] (S0, R0, M2) (QI (fun r M3 => (∀ a, a ≠ 1 → (a < o ∨ o + 6 < a) → M3 a = M a) ∧ M3 1 5 = (prs b n 16 0 LV0 0).1 ∧ ((prs b n 16 0 LV0 0).1 ≠ 0 → M3 1 6 = (prs b n 16 0 LV0 0).2.1) ∧ ((prs b n 16 0 LV0 0).1 = 0 → r = (prs b n 16 0 LV0 0).2.2.1 ∧ Rep M3 o (prs b n 16 0 LV0 0).2.2.2))) := by
    intro f
    induction f with
    | zero => intro k q d M2 jk hk hd; obtain ⟨d1, d2, d3, -⟩ := hd; omega
    | succ f ih =>
      intro k q d M2 jk hk hd hq e1 e5 hR hF hp
      have hT2 : TP M2 n b := by (unfold TP; rw [hF 2 (by omega) (by omega), hF 3 (by omega) (by omega)]; exact hT)
      have hu : prs b n (f + 1) q d k = if tkBb b n q then (1, tkS b n q, (k : Int), d) else if tkK b n q = 0 then (if lackB d then (6, tkS b n q, (k : Int), d) else (0, 0, (k : Int), d)) else if (lnP b n d q).1 ≠ 0 then ((lnP b n d q).1, (lnP b n d q).2.1, (k : Int), d) else prs b n f (lnP b n d q).2.2.1 (lnP b n d q).2.2.2 ((k : Int) + 1) := rfl
      rw [hp] at hu
      refine x_iload_n 22 2 dX5_readAll_21 rfl rfl (by decide) rfl ?_
      refine x_bipush 24 dX5_readAll_22 rfl (by decide) ?_
      refine x_icmp_gt 110 27 dX5_readAll_24 (by decide) rfl (by omega) (fun h24 => ?_) (fun h24 => ?_)
      · exfalso; obtain ⟨d1, d2, d3, -⟩ := hd; omega
      · refine x_aload_n 28 0 dX5_readAll_27 rfl rfl (by decide) rfl ?_
        refine x_vi 31 [] (c_readToken hT2 q e1 hq) mX5_readToken kX5_33 dX5_readAll_28 rfl rfl ⟨by decide, rfl⟩ rfl rfl (Nat.le_of_ble_eq_true rfl) (by decide) (fun r3 M3 q3 => ?_)
        obtain ⟨rfl, t0, t3, tb, tg⟩ := q3
        have hF3 : ∀ a, a ≠ 1 → (a < o ∨ o + 6 < a) → M3 a = M a := fun a h1 h2 => (t0 a h1).trans (hF a h1 h2)
        have hR3 : Rep M3 o d := hR.keep (fun a h1 h2 => t0 a (by omega))
        refine x_ifne_b 36 34 dX5_readAll_31 (by decide) rfl (fun h31 => ?_) (fun h31 => ?_)
        · have hb : tkBb b n q = false := by assumption
          obtain ⟨g1, g2, g4, g5, g6⟩ := tg hb
          rw [if_neg (by rw [hb]; decide)] at hu
          have hT3 : TP M3 n b := hT2.keep t0
          have hkr : 0 ≤ tkK b n q ∧ tkK b n q ≤ 3 := by (unfold tkK; (repeat' split) <;> omega)
          refine x_aload_n 37 0 dX5_readAll_36 rfl rfl (by decide) rfl ?_
          refine x_getI 40 2 2 rfl dX5_readAll_37 rfl fX5_37 rfl rfl (fun g37 => ?_)
          refine x_if_ne 59 43 dX5_readAll_40 (by decide) rfl (by omega) (fun h40 => ?_) (fun h40 => ?_)
          · rw [if_neg (show ¬ tkK b n q = 0 by omega)] at hu
            have hE := tkE_le (b := b) hq.2
            have hS := tkS_le (b := b) hq.2
            have hin := lnW_in b n q
            have hwd := c_wordRead (g := g) hT3 _ _ g1 t3 ⟨by omega, hE.1, hE.2⟩
            rw [lnW_all (show tkK b n q ≠ 0 by omega)] at hwd
            refine x_aload_n 60 0 dX5_readAll_59 rfl rfl (by decide) rfl ?_
            refine x_vp 63 [] (hwd) mX5_wordRead kX5_47 dX5_readAll_60 rfl rfl ⟨by decide, rfl⟩ rfl rfl (Nat.le_of_ble_eq_true rfl) (by decide) ?_
            refine x_istore_n 64 3 _ dX5_readAll_63 rfl rfl (by decide) rfl rfl ?_
            refine x_iload_n 65 3 dX5_readAll_64 rfl rfl (by decide) rfl ?_
            refine x_iconst 66 dX5_readAll_65 rfl ?_
            refine x_icmp_ne 77 69 dX5_readAll_66 (by decide) rfl (by omega) (fun h66 => ?_) (fun h66 => ?_)
            · refine x_iload_n 78 3 dX5_readAll_77 rfl rfl (by decide) rfl ?_
              refine x_iconst 79 dX5_readAll_78 rfl ?_
              refine x_icmp_ne 93 82 dX5_readAll_79 (by decide) rfl (by omega) (fun h79 => ?_) (fun h79 => ?_)
              · refine x_aload_n 94 0 dX5_readAll_93 rfl rfl (by decide) rfl ?_
                refine x_aload_n 95 1 dX5_readAll_94 rfl rfl (by decide) rfl ?_
                refine x_iload_n 96 3 dX5_readAll_95 rfl rfl (by decide) rfl ?_
                refine x_vi 99 [_, _] (c_readTown hT3 ho hR3 hd.1 hd.2.1 _ _ _ (by omega) g1 t3 (by omega)) mX5_readTown kX5_55 dX5_readAll_96 rfl rfl ⟨by decide, rfl⟩ rfl rfl (Nat.le_of_ble_eq_true rfl) (by decide) (fun r4 M4 q4 => ?_)
                have hres : lnP b n d q = lnT b n d (lnW b n q) (tkS b n q) (tkE b n q) := by (unfold lnP; rw [if_neg (by omega), if_neg (by omega)])
                obtain ⟨hr, hLR⟩ := q4
                rw [← hres] at hr hLR
                obtain ⟨l0, lb, lg⟩ := hLR
                subst hr
                refine x_ifne_b 104 102 dX5_readAll_99 (by decide) rfl (fun h99 => ?_) (fun h99 => ?_)
                · refine x_iinc 107 _ dX5_readAll_104 rfl (by decide) rfl rfl rfl ?_
                  refine x_goto 21 dX5_readAll_107 (by decide) ?_
                  have hl : (lnP b n d q).1 = 0 := by assumption
                  rw [if_neg (fun z => z hl)] at hu
                  obtain ⟨y1, y2, y5, y6⟩ := lg hl
                  have ok := lnP_ok hq hd hl
                  exact ih (k + 1) _ _ _ _ (by omega) ok.1 ok.2 y1 (y5.trans (g5.trans e5)) y2 (fun a h1 h2 => (l0 a h1 h2).trans (hF3 a h1 h2)) hu.symm
                · refine x_iload_n 103 2 dX5_readAll_102 rfl rfl (by decide) rfl ?_
                  refine x_iret dX5_readAll_103 rfl ⟨rfl, Nat.le_refl _⟩ (qi_i ?_)
                  have hl : (lnP b n d q).1 ≠ 0 := by assumption
                  rw [if_pos hl] at hu
                  rw [hu]
                  exact ⟨fun a h1 h2 => (l0 a h1 h2).trans (hF3 a h1 h2), (lb hl).1, fun _ => (lb hl).2, fun z => absurd z hl⟩
              · refine x_aload_n 83 0 dX5_readAll_82 rfl rfl (by decide) rfl ?_
                refine x_aload_n 84 1 dX5_readAll_83 rfl rfl (by decide) rfl ?_
                refine x_vi 87 [_] (c_readGame hT3 ho hR3 hd.1 hd.2.1 _ _ g1 t3 (by omega)) mX5_readGame kX5_51 dX5_readAll_84 rfl rfl ⟨by decide, rfl⟩ rfl rfl (Nat.le_of_ble_eq_true rfl) (by decide) (fun r4 M4 q4 => ?_)
                have hres : lnP b n d q = lnG b n d (tkS b n q) (tkE b n q) := by (unfold lnP; rw [if_neg (by omega), if_pos (by omega)])
                obtain ⟨hr, hLR⟩ := q4
                rw [← hres] at hr hLR
                obtain ⟨l0, lb, lg⟩ := hLR
                subst hr
                refine x_ifne_b 104 90 dX5_readAll_87 (by decide) rfl (fun h87 => ?_) (fun h87 => ?_)
                · refine x_iinc 107 _ dX5_readAll_104 rfl (by decide) rfl rfl rfl ?_
                  refine x_goto 21 dX5_readAll_107 (by decide) ?_
                  have hl : (lnP b n d q).1 = 0 := by assumption
                  rw [if_neg (fun z => z hl)] at hu
                  obtain ⟨y1, y2, y5, y6⟩ := lg hl
                  have ok := lnP_ok hq hd hl
                  exact ih (k + 1) _ _ _ _ (by omega) ok.1 ok.2 y1 (y5.trans (g5.trans e5)) y2 (fun a h1 h2 => (l0 a h1 h2).trans (hF3 a h1 h2)) hu.symm
                · refine x_goto 102 dX5_readAll_90 (by decide) ?_
                  refine x_iload_n 103 2 dX5_readAll_102 rfl rfl (by decide) rfl ?_
                  refine x_iret dX5_readAll_103 rfl ⟨rfl, Nat.le_refl _⟩ (qi_i ?_)
                  have hl : (lnP b n d q).1 ≠ 0 := by assumption
                  rw [if_pos hl] at hu
                  rw [hu]
                  exact ⟨fun a h1 h2 => (l0 a h1 h2).trans (hF3 a h1 h2), (lb hl).1, fun _ => (lb hl).2, fun z => absurd z hl⟩
            · refine x_aload_n 70 0 dX5_readAll_69 rfl rfl (by decide) rfl ?_
              refine x_iconst 71 dX5_readAll_70 rfl ?_
              refine x_vi 74 [_] (c_refuse _ (by omega)) mX5_refuse kX5_43 dX5_readAll_71 rfl rfl ⟨by decide, rfl⟩ rfl rfl (Nat.le_of_ble_eq_true rfl) (by decide) (fun r9 M9 q9 => ?_)
              obtain ⟨rfl, rfl⟩ := q9
              refine x_pop 75 dX5_readAll_74 rfl rfl ?_
              refine x_iload_n 76 2 dX5_readAll_75 rfl rfl (by decide) rfl ?_
              refine x_iret dX5_readAll_76 rfl ⟨rfl, Nat.le_refl _⟩ (qi_i ?_)
              have hres : lnP b n d q = (2, tkS b n q, 0, d) := by (unfold lnP; rw [if_pos (by omega)])
              have hl : (lnP b n d q).1 ≠ 0 := by (rw [hres]; show (2 : Int) ≠ 0; decide)
              rw [if_pos hl, hres] at hu
              rw [hu]
              refine ⟨fun a h1 h2 => by rw [up2_o _ _ _ h1, up2_o _ _ _ h1]; exact hF3 a h1 h2, ?_, fun _ => ?_, fun z => by (have z : (2 : Int) = 0 := z; omega)⟩
              · rw [up2_k _ _ _ (by omega), up2_s]
              · rw [up2_s]; exact t3
          · rw [if_pos (show tkK b n q = 0 by omega)] at hu
            refine x_aload_n 44 1 dX5_readAll_43 rfl rfl (by decide) rfl ?_
            refine x_vp 47 [] (c_lacksTown ho hR3 hd.2.1) mX1_lacksTown kX5_40 dX5_readAll_44 rfl (lg_s ho) ⟨by decide, rfl⟩ rfl rfl (Nat.le_of_ble_eq_true rfl) (by decide) ?_
            refine x_ifeq_b 57 50 dX5_readAll_47 (by decide) rfl (fun h47 => ?_) (fun h47 => ?_)
            · refine x_iload_n 58 2 dX5_readAll_57 rfl rfl (by decide) rfl ?_
              refine x_iret dX5_readAll_58 rfl ⟨rfl, Nat.le_refl _⟩ (qi_i ?_)
              first
                | (rw [if_pos (by assumption)] at hu
                   rw [hu]
                   refine ⟨fun a h1 h2 => by rw [up2_o _ _ _ h1, up2_o _ _ _ h1]; exact hF3 a h1 h2, ?_, fun _ => ?_, fun z => by (have z : (6 : Int) = 0 := z; omega)⟩
                   · rw [up2_k _ _ _ (by omega), up2_s]
                   · rw [up2_s]; exact t3)
                | (rw [if_neg (by assumption)] at hu
                   rw [hu]
                   exact ⟨hF3, g5.trans e5, fun z => absurd rfl z, fun _ => ⟨rfl, hR3⟩⟩)
            · refine x_aload_n 51 0 dX5_readAll_50 rfl rfl (by decide) rfl ?_
              refine x_bipush 53 dX5_readAll_51 rfl (by decide) ?_
              refine x_vi 56 [_] (c_refuse _ (by omega)) mX5_refuse kX5_43 dX5_readAll_53 rfl rfl ⟨by decide, rfl⟩ rfl rfl (Nat.le_of_ble_eq_true rfl) (by decide) (fun r9 M9 q9 => ?_)
              obtain ⟨rfl, rfl⟩ := q9
              refine x_pop 57 dX5_readAll_56 rfl rfl ?_
              refine x_iload_n 58 2 dX5_readAll_57 rfl rfl (by decide) rfl ?_
              refine x_iret dX5_readAll_58 rfl ⟨rfl, Nat.le_refl _⟩ (qi_i ?_)
              first
                | (rw [if_pos (by assumption)] at hu
                   rw [hu]
                   refine ⟨fun a h1 h2 => by rw [up2_o _ _ _ h1, up2_o _ _ _ h1]; exact hF3 a h1 h2, ?_, fun _ => ?_, fun z => by (have z : (6 : Int) = 0 := z; omega)⟩
                   · rw [up2_k _ _ _ (by omega), up2_s]
                   · rw [up2_s]; exact t3)
                | (rw [if_neg (by assumption)] at hu
                   rw [hu]
                   exact ⟨hF3, g5.trans e5, fun z => absurd rfl z, fun _ => ⟨rfl, hR3⟩⟩)
        · refine x_iload_n 35 2 dX5_readAll_34 rfl rfl (by decide) rfl ?_
          refine x_iret dX5_readAll_35 rfl ⟨rfl, Nat.le_refl _⟩ (qi_i ?_)
          have hb : tkBb b n q = true := by (cases hz : tkBb b n q with | true => rfl | false => exact absurd hz (by assumption))
          rw [if_pos hb] at hu
          rw [hu]
          exact ⟨hF3, (tb hb).1, fun _ => (tb hb).2, fun z => by (have z : (1 : Int) = 0 := z; omega)⟩
  refine x_aload_n 1 1 dX5_readAll_0 rfl rfl (by decide) rfl ?_
  refine x_vv 4 [] (c_clear ho) mX1_clear kX5_18 dX5_readAll_1 rfl (lg_s ho) ⟨by decide, rfl⟩ rfl rfl (Nat.le_of_ble_eq_true rfl) (by decide) (fun M1 q1 => ?_)
  subst q1
  refine x_aload_n 5 0 dX5_readAll_4 rfl rfl (by decide) rfl ?_
  refine x_iconst 6 dX5_readAll_5 rfl ?_
  refine x_putI 9 1 1 rfl dX5_readAll_6 rfl fX5_23 rfl rfl rfl (by omega) ?_
  refine x_aload_n 10 0 dX5_readAll_9 rfl rfl (by decide) rfl ?_
  refine x_iconst 11 dX5_readAll_10 rfl ?_
  refine x_putI 14 5 5 rfl dX5_readAll_11 rfl fX5_27 rfl rfl rfl (by omega) ?_
  refine x_aload_n 15 0 dX5_readAll_14 rfl rfl (by decide) rfl ?_
  refine x_iconst 16 dX5_readAll_15 rfl ?_
  refine x_putI 19 6 6 rfl dX5_readAll_16 rfl fX5_30 rfl rfl rfl (by omega) ?_
  refine x_iconst 20 dX5_readAll_19 rfl ?_
  refine x_istore_n 21 2 _ dX5_readAll_20 rfl rfl (by decide) rfl rfl ?_
  refine loop 16 0 0 LV0 _ _ (by omega) DI_0 (by omega) ?_ ?_ ?_ (fun a h1 h2 => ?_) rfl
  · rw [up2_k _ _ _ (by omega), up2_k _ _ _ (by omega), up2_s]
  · rw [up2_k _ _ _ (by omega), up2_s]
  · refine ⟨?_, ?_, ?_, fun t a b => by (have b : t < 0 := b; omega), fun t a b => by (have b : t < 0 := b; omega)⟩
    · rw [up2_o _ _ _ (by omega), up2_o _ _ _ (by omega), up2_o _ _ _ (by omega), up2_k _ _ _ (by omega), up2_k _ _ _ (by omega), up2_s]; rfl
    · rw [up2_o _ _ _ (by omega), up2_o _ _ _ (by omega), up2_o _ _ _ (by omega), up2_k _ _ _ (by omega), up2_s]; rfl
    · rw [up2_o _ _ _ (by omega), up2_o _ _ _ (by omega), up2_o _ _ _ (by omega), up2_s]; rfl
  · rw [up2_o _ _ _ h1, up2_o _ _ _ h1, up2_o _ _ _ h1, up2_o _ _ _ (by omega), up2_o _ _ _ (by omega), up2_o _ _ _ (by omega)]
