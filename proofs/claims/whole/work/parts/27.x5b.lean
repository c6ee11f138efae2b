set_option maxHeartbeats 4000000 in
theorem c_readToken {g : GG} {M : Mem} {n : Int} {b : Int → Int} (hT : TP M n b) (p : Int) (hp : M 1 1 = p) (hpn : 0 ≤ p ∧ p ≤ n) : CI g tX5_readToken 2 [rv g 1] M (fun r M3 => r = bI (tkBb b n p = false) ∧ RT b n p M M3) := by
  refine Con.of [some (rv g 1), none] (by decide +kernel) rfl (Nat.le_of_ble_eq_true rfl) ?_
  have hn := hT.2.1
  have loop : ∀ (m : Nat) (q : Int) (M2 : Mem) (jk : Option Value), n - q < m → p ≤ q → q ≤ n → M2 1 1 = q → scan isBk b n q = tkS b n p → ((∀ a, a ≠ 1 → M2 a = M a) ∧ M2 1 5 = M 1 5 ∧ M2 1 6 = M 1 6) → X g tX5_readToken (kk0 2) 0 [some (rv g 1), jk] [] (S0, R0, M2) (QI (fun r M3 => r = bI (tkBb b n p = false) ∧ RT b n p M M3)) := by
    intro m
    induction m with
    | zero => intro q M2 jk k1 k2 k3; omega
    | succ m ih =>
      intro q M2 jk k1 k2 k3 e1 hs ⟨i0, i5, i6⟩
      have hT2 := hT.keep i0
      have eL : M2 2 1 = n := hT2.1
      refine x_aload_n 1 0 dX5_readToken_0 rfl rfl (by decide) rfl ?_
      refine x_getI 4 1 1 rfl dX5_readToken_1 rfl fX5_23 rfl rfl (fun g1 => ?_)
      refine x_aload_n 5 0 dX5_readToken_4 rfl rfl (by decide) rfl ?_
      refine x_getR 8 0 2 dX5_readToken_5 rfl fX5_12 rfl rfl rfl ?_
      refine x_getI 11 1 1 rfl dX5_readToken_8 rfl fX5_82 rfl rfl (fun g8 => ?_)
      refine x_icmp_ge 43 14 dX5_readToken_11 (by decide) rfl (by omega) (fun h11 => ?_) (fun h11 => ?_)
      · have hend : tkS b n p = q := by (rw [← hs]; first | exact scan_no (fun z => by omega) | exact scan_no (fun z => absurd z.2 (by unfold isBk; rw [decide_eq_true_eq]; omega)))
        refine x_aload_n 44 0 dX5_readToken_43 rfl rfl (by decide) rfl ?_
        refine x_aload_n 45 0 dX5_readToken_44 rfl rfl (by decide) rfl ?_
        refine x_getI 48 1 1 rfl dX5_readToken_45 rfl fX5_23 rfl rfl (fun g45 => ?_)
        refine x_putI 51 3 3 rfl dX5_readToken_48 rfl fX5_89 rfl rfl rfl (by omega) ?_
        rw [e1]
        have f0 : ∀ a, a ≠ 1 → up2 M2 1 3 q a = M a := fun a ha => by rw [up2_o _ _ _ ha]; exact i0 a ha
        have f1 : up2 M2 1 3 q 1 1 = q := by rw [up2_k _ _ _ (by omega)]; exact e1
        have f3 : up2 M2 1 3 q 1 3 = q := up2_s _ _ _ _
        have f5 : up2 M2 1 3 q 1 5 = M 1 5 := by rw [up2_k _ _ _ (by omega)]; exact i5
        have f6 : up2 M2 1 3 q 1 6 = M 1 6 := by rw [up2_k _ _ _ (by omega)]; exact i6
        generalize up2 M2 1 3 q = M3 at f0 f1 f3 f5 f6 ⊢
        have hT3 := hT.keep f0
        have eL3 : M3 2 1 = n := hT3.1
        refine x_aload_n 52 0 dX5_readToken_51 rfl rfl (by decide) rfl ?_
        refine x_getI 55 1 1 rfl dX5_readToken_52 rfl fX5_23 rfl rfl (fun g52 => ?_)
        refine x_aload_n 56 0 dX5_readToken_55 rfl rfl (by decide) rfl ?_
        refine x_getR 59 0 2 dX5_readToken_56 rfl fX5_12 rfl rfl rfl ?_
        refine x_getI 62 1 1 rfl dX5_readToken_59 rfl fX5_82 rfl rfl (fun g59 => ?_)
        refine x_icmp_lt 72 65 dX5_readToken_62 (by decide) rfl (by omega) (fun h62 => ?_) (fun h62 => ?_)
        · refine x_aload_n 73 0 dX5_readToken_72 rfl rfl (by decide) rfl ?_
          refine x_getR 76 0 2 dX5_readToken_73 rfl fX5_12 rfl rfl rfl ?_
          refine x_aload_n 77 0 dX5_readToken_76 rfl rfl (by decide) rfl ?_
          refine x_getI 80 1 1 rfl dX5_readToken_77 rfl fX5_23 rfl rfl (fun g77 => ?_)
          rw [f1]
          refine x_vp 83 [_] (c_bAt hT3 _ (by omega)) mX4_byteAt kX5_85 dX5_readToken_80 rfl rfl ⟨by decide, rfl⟩ rfl rfl (Nat.le_of_ble_eq_true rfl) (by decide) ?_
          refine x_istore_n 84 1 _ dX5_readToken_83 rfl rfl (by decide) rfl rfl ?_
          refine x_iload_n 85 1 dX5_readToken_84 rfl rfl (by decide) rfl ?_
          refine x_sp 88 [_] (c_isLetter _ (by have := hT.2.2 q (by omega) (by omega); omega)) mX5_isLetter kX5_92 dX5_readToken_85 rfl rfl rfl (Nat.le_of_ble_eq_true rfl) (by decide) ?_
          refine x_ifeq_b 96 91 dX5_readToken_88 (by decide) rfl (fun h88 => ?_) (fun h88 => ?_)
          · refine x_iload_n 97 1 dX5_readToken_96 rfl rfl (by decide) rfl ?_
            refine x_sp 100 [_] (c_isFigure _ (by have := hT.2.2 q (by omega) (by omega); omega)) mX5_isFigure kX5_98 dX5_readToken_97 rfl rfl rfl (Nat.le_of_ble_eq_true rfl) (by decide) ?_
            refine x_ifeq_b 108 103 dX5_readToken_100 (by decide) rfl (fun h100 => ?_) (fun h100 => ?_)
            · refine x_iload_n 109 1 dX5_readToken_108 rfl rfl (by decide) rfl ?_
              refine x_bipush 111 dX5_readToken_109 rfl (by decide) ?_
              refine x_icmp_eq 120 114 dX5_readToken_111 (by decide) rfl (by have := hT.2.2 q (by omega) (by omega); omega) (fun h111 => ?_) (fun h111 => ?_)
              · refine x_aload_n 121 0 dX5_readToken_120 rfl rfl (by decide) rfl ?_
                refine x_iconst 122 dX5_readToken_121 rfl ?_
                refine x_putI 125 2 2 rfl dX5_readToken_122 rfl fX5_37 rfl rfl rfl (by omega) ?_
                refine x_aload_n 126 0 dX5_readToken_125 rfl rfl (by decide) rfl ?_
                refine x_dup 127 dX5_readToken_126 rfl rfl ?_
                refine x_getI 130 1 1 rfl dX5_readToken_127 rfl fX5_23 rfl rfl (fun g127 => ?_)
                refine x_iconst 131 dX5_readToken_130 rfl ?_
                refine x_iadd 132 dX5_readToken_131 rfl ?_
                refine x_putI 135 1 1 rfl dX5_readToken_132 rfl fX5_23 rfl rfl rfl (by rw [up2_k _ _ _ (show (1 : Int) ≠ 2 by omega)]; omega) ?_
                refine x_iconst 136 dX5_readToken_135 rfl ?_
                refine x_zret dX5_readToken_136 rfl (by first | exact Or.inl rfl | exact Or.inr rfl | exact bI_or _ | omega) ⟨rfl, Nat.le_refl _⟩ (qi_i ?_)
                have tk := tk_oth (b := b) (n := n) (p := p) (by rw [hend]; omega) (by rw [hend]; assumption) (by rw [hend]; assumption)
                rw [hend] at tk
                have tb : tkBb b n p = false := by rw [tk.2.2]; exact decide_eq_false (by omega)
                refine ⟨(bI_t tb).symm, fun a ha => by rw [up2_o _ _ _ ha, up2_o _ _ _ ha]; exact f0 a ha, ?_, fun z => by (rw [tb] at z; cases z), fun _ => ⟨?_, ?_, fun z => by (rw [tk.1] at z; omega), ?_, ?_⟩⟩
                · rw [up2_k _ _ _ (by omega), up2_k _ _ _ (by omega), hend]; exact f3
                · rw [up2_s, up2_k _ _ _ (by omega), tk.2.1, f1]
                · rw [up2_k _ _ _ (by omega), up2_s, tk.1]
                · rw [up2_k _ _ _ (by omega), up2_k _ _ _ (by omega)]; exact f5
                · rw [up2_k _ _ _ (by omega), up2_k _ _ _ (by omega)]; exact f6
              · refine x_aload_n 115 0 dX5_readToken_114 rfl rfl (by decide) rfl ?_
                refine x_iconst 116 dX5_readToken_115 rfl ?_
                refine x_vi 119 [_] (c_refuse _ (by omega)) mX5_refuse kX5_43 dX5_readToken_116 rfl rfl ⟨by decide, rfl⟩ rfl rfl (Nat.le_of_ble_eq_true rfl) (by decide) (fun r9 M9 q9 => ?_)
                obtain ⟨rfl, rfl⟩ := q9
                refine x_zret dX5_readToken_119 rfl (by first | exact Or.inl rfl | exact Or.inr rfl | exact bI_or _ | omega) ⟨rfl, Nat.le_refl _⟩ (qi_i ?_)
                have tk := tk_oth (b := b) (n := n) (p := p) (by rw [hend]; omega) (by rw [hend]; assumption) (by rw [hend]; assumption)
                rw [hend] at tk
                have tb : tkBb b n p = true := by rw [tk.2.2]; exact decide_eq_true (by assumption)
                refine ⟨(bI_f (by rw [tb]; decide)).symm, fun a ha => by rw [up2_o _ _ _ ha, up2_o _ _ _ ha]; exact f0 a ha, ?_, fun z => ⟨?_, ?_⟩, fun z => by (rw [tb] at z; cases z)⟩
                · rw [up2_k _ _ _ (by omega), up2_k _ _ _ (by omega), hend]; exact f3
                · rw [up2_k _ _ _ (by omega), up2_s]
                · rw [up2_s, hend]; exact f3
            · refine x_aload_n 104 0 dX5_readToken_103 rfl rfl (by decide) rfl ?_
              refine x_vi 107 [] (c_takeNumber hT3 q f1 f3 (by omega)) mX5_takeNumber kX5_101 dX5_readToken_104 rfl rfl ⟨by decide, rfl⟩ rfl rfl (Nat.le_of_ble_eq_true rfl) (by decide) (fun r M4 q4 => ?_)
              obtain ⟨n0, n3, rfl, nb, ng⟩ := q4
              refine x_zret dX5_readToken_107 rfl (by first | exact Or.inl rfl | exact Or.inr rfl | exact bI_or _ | omega) ⟨rfl, Nat.le_refl _⟩ (qi_i ?_)
              have tk := tk_num (b := b) (n := n) (p := p) (by rw [hend]; omega) (by rw [hend]; assumption) (by rw [hend]; assumption)
              rw [hend] at tk
              refine ⟨bI_eq ?_, fun a ha => (n0 a ha).trans (f0 a ha), ?_, fun z => ?_, fun z => ?_⟩
              · rw [tk.2.2.2, decide_eq_false_iff_not]
              · rw [hend]; exact n3.trans f3
              · rw [tk.2.2.2, decide_eq_true_eq] at z; rw [hend]; exact nb z
              · rw [tk.2.2.2, decide_eq_false_iff_not] at z
                obtain ⟨a1, a2, a4, a5, a6⟩ := ng z
                exact ⟨a1.trans tk.2.1.symm, a2.trans tk.1.symm, fun _ => a4.trans tk.2.2.1.symm, a5.trans f5, a6.trans f6⟩
          · refine x_aload_n 92 0 dX5_readToken_91 rfl rfl (by decide) rfl ?_
            refine x_vi 95 [] (c_takeName hT3 q f1 (by omega)) mX5_takeName kX5_95 dX5_readToken_92 rfl rfl ⟨by decide, rfl⟩ rfl rfl (Nat.le_of_ble_eq_true rfl) (by decide) (fun r M4 q4 => ?_)
            obtain ⟨rfl, n0, n1, n2, n3, n5, n6⟩ := q4
            refine x_zret dX5_readToken_95 rfl (by first | exact Or.inl rfl | exact Or.inr rfl | exact bI_or _ | omega) ⟨rfl, Nat.le_refl _⟩ (qi_i ?_)
            have tk := tk_name (b := b) (n := n) (p := p) (by rw [hend]; omega) (by rw [hend]; assumption)
            refine ⟨(bI_t tk.2.2).symm, fun a ha => (n0 a ha).trans (f0 a ha), ?_, fun z => by (rw [tk.2.2] at z; cases z), fun _ => ⟨?_, ?_, fun z => by (rw [tk.1] at z; omega), n5.trans f5, n6.trans f6⟩⟩
            · rw [hend]; exact n3.trans f3
            · rw [tk.2.1, hend]; exact n1
            · rw [tk.1]; exact n2
        · refine x_aload_n 66 0 dX5_readToken_65 rfl rfl (by decide) rfl ?_
          refine x_iconst 67 dX5_readToken_66 rfl ?_
          refine x_putI 70 2 2 rfl dX5_readToken_67 rfl fX5_37 rfl rfl rfl (by omega) ?_
          refine x_iconst 71 dX5_readToken_70 rfl ?_
          refine x_zret dX5_readToken_71 rfl (by first | exact Or.inl rfl | exact Or.inr rfl | exact bI_or _ | omega) ⟨rfl, Nat.le_refl _⟩ (qi_i ?_)
          have tk := tk_end (b := b) (n := n) (p := p) (by rw [hend]; omega)
          refine ⟨(bI_t tk.2.2).symm, fun a ha => by rw [up2_o _ _ _ ha]; exact f0 a ha, ?_, fun z => by (rw [tk.2.2] at z; cases z), fun _ => ⟨?_, ?_, fun z => by (rw [tk.1] at z; omega), ?_, ?_⟩⟩
          · rw [up2_k _ _ _ (by omega), hend]; exact f3
          · rw [up2_k _ _ _ (by omega), tk.2.1, hend]; exact f1
          · rw [up2_s, tk.1]
          · rw [up2_k _ _ _ (by omega)]; exact f5
          · rw [up2_k _ _ _ (by omega)]; exact f6
      · refine x_aload_n 15 0 dX5_readToken_14 rfl rfl (by decide) rfl ?_
        refine x_getR 18 0 2 dX5_readToken_15 rfl fX5_12 rfl rfl rfl ?_
        refine x_aload_n 19 0 dX5_readToken_18 rfl rfl (by decide) rfl ?_
        refine x_getI 22 1 1 rfl dX5_readToken_19 rfl fX5_23 rfl rfl (fun g19 => ?_)
        rw [e1]
        refine x_vp 25 [_] (c_bAt hT2 _ (by omega)) mX4_byteAt kX5_85 dX5_readToken_22 rfl rfl ⟨by decide, rfl⟩ rfl rfl (Nat.le_of_ble_eq_true rfl) (by decide) ?_
        refine x_bipush 27 dX5_readToken_25 rfl (by decide) ?_
        refine x_icmp_ne 43 30 dX5_readToken_27 (by decide) rfl (by have := hT.2.2 q (by omega) (by omega); omega) (fun h27 => ?_) (fun h27 => ?_)
        · have hend : tkS b n p = q := by (rw [← hs]; first | exact scan_no (fun z => by omega) | exact scan_no (fun z => absurd z.2 (by unfold isBk; rw [decide_eq_true_eq]; omega)))
          refine x_aload_n 44 0 dX5_readToken_43 rfl rfl (by decide) rfl ?_
          refine x_aload_n 45 0 dX5_readToken_44 rfl rfl (by decide) rfl ?_
          refine x_getI 48 1 1 rfl dX5_readToken_45 rfl fX5_23 rfl rfl (fun g45 => ?_)
          refine x_putI 51 3 3 rfl dX5_readToken_48 rfl fX5_89 rfl rfl rfl (by omega) ?_
          rw [e1]
          have f0 : ∀ a, a ≠ 1 → up2 M2 1 3 q a = M a := fun a ha => by rw [up2_o _ _ _ ha]; exact i0 a ha
          have f1 : up2 M2 1 3 q 1 1 = q := by rw [up2_k _ _ _ (by omega)]; exact e1
          have f3 : up2 M2 1 3 q 1 3 = q := up2_s _ _ _ _
          have f5 : up2 M2 1 3 q 1 5 = M 1 5 := by rw [up2_k _ _ _ (by omega)]; exact i5
          have f6 : up2 M2 1 3 q 1 6 = M 1 6 := by rw [up2_k _ _ _ (by omega)]; exact i6
          generalize up2 M2 1 3 q = M3 at f0 f1 f3 f5 f6 ⊢
          have hT3 := hT.keep f0
          have eL3 : M3 2 1 = n := hT3.1
          refine x_aload_n 52 0 dX5_readToken_51 rfl rfl (by decide) rfl ?_
          refine x_getI 55 1 1 rfl dX5_readToken_52 rfl fX5_23 rfl rfl (fun g52 => ?_)
          refine x_aload_n 56 0 dX5_readToken_55 rfl rfl (by decide) rfl ?_
          refine x_getR 59 0 2 dX5_readToken_56 rfl fX5_12 rfl rfl rfl ?_
          refine x_getI 62 1 1 rfl dX5_readToken_59 rfl fX5_82 rfl rfl (fun g59 => ?_)
          refine x_icmp_lt 72 65 dX5_readToken_62 (by decide) rfl (by omega) (fun h62 => ?_) (fun h62 => ?_)
          · refine x_aload_n 73 0 dX5_readToken_72 rfl rfl (by decide) rfl ?_
            refine x_getR 76 0 2 dX5_readToken_73 rfl fX5_12 rfl rfl rfl ?_
            refine x_aload_n 77 0 dX5_readToken_76 rfl rfl (by decide) rfl ?_
            refine x_getI 80 1 1 rfl dX5_readToken_77 rfl fX5_23 rfl rfl (fun g77 => ?_)
            rw [f1]
            refine x_vp 83 [_] (c_bAt hT3 _ (by omega)) mX4_byteAt kX5_85 dX5_readToken_80 rfl rfl ⟨by decide, rfl⟩ rfl rfl (Nat.le_of_ble_eq_true rfl) (by decide) ?_
            refine x_istore_n 84 1 _ dX5_readToken_83 rfl rfl (by decide) rfl rfl ?_
            refine x_iload_n 85 1 dX5_readToken_84 rfl rfl (by decide) rfl ?_
            refine x_sp 88 [_] (c_isLetter _ (by have := hT.2.2 q (by omega) (by omega); omega)) mX5_isLetter kX5_92 dX5_readToken_85 rfl rfl rfl (Nat.le_of_ble_eq_true rfl) (by decide) ?_
            refine x_ifeq_b 96 91 dX5_readToken_88 (by decide) rfl (fun h88 => ?_) (fun h88 => ?_)
            · refine x_iload_n 97 1 dX5_readToken_96 rfl rfl (by decide) rfl ?_
              refine x_sp 100 [_] (c_isFigure _ (by have := hT.2.2 q (by omega) (by omega); omega)) mX5_isFigure kX5_98 dX5_readToken_97 rfl rfl rfl (Nat.le_of_ble_eq_true rfl) (by decide) ?_
              refine x_ifeq_b 108 103 dX5_readToken_100 (by decide) rfl (fun h100 => ?_) (fun h100 => ?_)
              · refine x_iload_n 109 1 dX5_readToken_108 rfl rfl (by decide) rfl ?_
                refine x_bipush 111 dX5_readToken_109 rfl (by decide) ?_
                refine x_icmp_eq 120 114 dX5_readToken_111 (by decide) rfl (by have := hT.2.2 q (by omega) (by omega); omega) (fun h111 => ?_) (fun h111 => ?_)
                · refine x_aload_n 121 0 dX5_readToken_120 rfl rfl (by decide) rfl ?_
                  refine x_iconst 122 dX5_readToken_121 rfl ?_
                  refine x_putI 125 2 2 rfl dX5_readToken_122 rfl fX5_37 rfl rfl rfl (by omega) ?_
                  refine x_aload_n 126 0 dX5_readToken_125 rfl rfl (by decide) rfl ?_
                  refine x_dup 127 dX5_readToken_126 rfl rfl ?_
                  refine x_getI 130 1 1 rfl dX5_readToken_127 rfl fX5_23 rfl rfl (fun g127 => ?_)
                  refine x_iconst 131 dX5_readToken_130 rfl ?_
                  refine x_iadd 132 dX5_readToken_131 rfl ?_
                  refine x_putI 135 1 1 rfl dX5_readToken_132 rfl fX5_23 rfl rfl rfl (by rw [up2_k _ _ _ (show (1 : Int) ≠ 2 by omega)]; omega) ?_
                  refine x_iconst 136 dX5_readToken_135 rfl ?_
                  refine x_zret dX5_readToken_136 rfl (by first | exact Or.inl rfl | exact Or.inr rfl | exact bI_or _ | omega) ⟨rfl, Nat.le_refl _⟩ (qi_i ?_)
                  have tk := tk_oth (b := b) (n := n) (p := p) (by rw [hend]; omega) (by rw [hend]; assumption) (by rw [hend]; assumption)
                  rw [hend] at tk
                  have tb : tkBb b n p = false := by rw [tk.2.2]; exact decide_eq_false (by omega)
                  refine ⟨(bI_t tb).symm, fun a ha => by rw [up2_o _ _ _ ha, up2_o _ _ _ ha]; exact f0 a ha, ?_, fun z => by (rw [tb] at z; cases z), fun _ => ⟨?_, ?_, fun z => by (rw [tk.1] at z; omega), ?_, ?_⟩⟩
                  · rw [up2_k _ _ _ (by omega), up2_k _ _ _ (by omega), hend]; exact f3
                  · rw [up2_s, up2_k _ _ _ (by omega), tk.2.1, f1]
                  · rw [up2_k _ _ _ (by omega), up2_s, tk.1]
                  · rw [up2_k _ _ _ (by omega), up2_k _ _ _ (by omega)]; exact f5
                  · rw [up2_k _ _ _ (by omega), up2_k _ _ _ (by omega)]; exact f6
                · refine x_aload_n 115 0 dX5_readToken_114 rfl rfl (by decide) rfl ?_
                  refine x_iconst 116 dX5_readToken_115 rfl ?_
                  refine x_vi 119 [_] (c_refuse _ (by omega)) mX5_refuse kX5_43 dX5_readToken_116 rfl rfl ⟨by decide, rfl⟩ rfl rfl (Nat.le_of_ble_eq_true rfl) (by decide) (fun r9 M9 q9 => ?_)
                  obtain ⟨rfl, rfl⟩ := q9
                  refine x_zret dX5_readToken_119 rfl (by first | exact Or.inl rfl | exact Or.inr rfl | exact bI_or _ | omega) ⟨rfl, Nat.le_refl _⟩ (qi_i ?_)
                  have tk := tk_oth (b := b) (n := n) (p := p) (by rw [hend]; omega) (by rw [hend]; assumption) (by rw [hend]; assumption)
                  rw [hend] at tk
                  have tb : tkBb b n p = true := by rw [tk.2.2]; exact decide_eq_true (by assumption)
                  refine ⟨(bI_f (by rw [tb]; decide)).symm, fun a ha => by rw [up2_o _ _ _ ha, up2_o _ _ _ ha]; exact f0 a ha, ?_, fun z => ⟨?_, ?_⟩, fun z => by (rw [tb] at z; cases z)⟩
                  · rw [up2_k _ _ _ (by omega), up2_k _ _ _ (by omega), hend]; exact f3
                  · rw [up2_k _ _ _ (by omega), up2_s]
                  · rw [up2_s, hend]; exact f3
              · refine x_aload_n 104 0 dX5_readToken_103 rfl rfl (by decide) rfl ?_
                refine x_vi 107 [] (c_takeNumber hT3 q f1 f3 (by omega)) mX5_takeNumber kX5_101 dX5_readToken_104 rfl rfl ⟨by decide, rfl⟩ rfl rfl (Nat.le_of_ble_eq_true rfl) (by decide) (fun r M4 q4 => ?_)
                obtain ⟨n0, n3, rfl, nb, ng⟩ := q4
                refine x_zret dX5_readToken_107 rfl (by first | exact Or.inl rfl | exact Or.inr rfl | exact bI_or _ | omega) ⟨rfl, Nat.le_refl _⟩ (qi_i ?_)
                have tk := tk_num (b := b) (n := n) (p := p) (by rw [hend]; omega) (by rw [hend]; assumption) (by rw [hend]; assumption)
                rw [hend] at tk
                refine ⟨bI_eq ?_, fun a ha => (n0 a ha).trans (f0 a ha), ?_, fun z => ?_, fun z => ?_⟩
                · rw [tk.2.2.2, decide_eq_false_iff_not]
                · rw [hend]; exact n3.trans f3
                · rw [tk.2.2.2, decide_eq_true_eq] at z; rw [hend]; exact nb z
                · rw [tk.2.2.2, decide_eq_false_iff_not] at z
                  obtain ⟨a1, a2, a4, a5, a6⟩ := ng z
                  exact ⟨a1.trans tk.2.1.symm, a2.trans tk.1.symm, fun _ => a4.trans tk.2.2.1.symm, a5.trans f5, a6.trans f6⟩
            · refine x_aload_n 92 0 dX5_readToken_91 rfl rfl (by decide) rfl ?_
              refine x_vi 95 [] (c_takeName hT3 q f1 (by omega)) mX5_takeName kX5_95 dX5_readToken_92 rfl rfl ⟨by decide, rfl⟩ rfl rfl (Nat.le_of_ble_eq_true rfl) (by decide) (fun r M4 q4 => ?_)
              obtain ⟨rfl, n0, n1, n2, n3, n5, n6⟩ := q4
              refine x_zret dX5_readToken_95 rfl (by first | exact Or.inl rfl | exact Or.inr rfl | exact bI_or _ | omega) ⟨rfl, Nat.le_refl _⟩ (qi_i ?_)
              have tk := tk_name (b := b) (n := n) (p := p) (by rw [hend]; omega) (by rw [hend]; assumption)
              refine ⟨(bI_t tk.2.2).symm, fun a ha => (n0 a ha).trans (f0 a ha), ?_, fun z => by (rw [tk.2.2] at z; cases z), fun _ => ⟨?_, ?_, fun z => by (rw [tk.1] at z; omega), n5.trans f5, n6.trans f6⟩⟩
              · rw [hend]; exact n3.trans f3
              · rw [tk.2.1, hend]; exact n1
              · rw [tk.1]; exact n2
          · refine x_aload_n 66 0 dX5_readToken_65 rfl rfl (by decide) rfl ?_
            refine x_iconst 67 dX5_readToken_66 rfl ?_
            refine x_putI 70 2 2 rfl dX5_readToken_67 rfl fX5_37 rfl rfl rfl (by omega) ?_
            refine x_iconst 71 dX5_readToken_70 rfl ?_
            refine x_zret dX5_readToken_71 rfl (by first | exact Or.inl rfl | exact Or.inr rfl | exact bI_or _ | omega) ⟨rfl, Nat.le_refl _⟩ (qi_i ?_)
            have tk := tk_end (b := b) (n := n) (p := p) (by rw [hend]; omega)
            refine ⟨(bI_t tk.2.2).symm, fun a ha => by rw [up2_o _ _ _ ha]; exact f0 a ha, ?_, fun z => by (rw [tk.2.2] at z; cases z), fun _ => ⟨?_, ?_, fun z => by (rw [tk.1] at z; omega), ?_, ?_⟩⟩
            · rw [up2_k _ _ _ (by omega), hend]; exact f3
            · rw [up2_k _ _ _ (by omega), tk.2.1, hend]; exact f1
            · rw [up2_s, tk.1]
            · rw [up2_k _ _ _ (by omega)]; exact f5
            · rw [up2_k _ _ _ (by omega)]; exact f6
        · refine x_aload_n 31 0 dX5_readToken_30 rfl rfl (by decide) rfl ?_
          refine x_dup 32 dX5_readToken_31 rfl rfl ?_
          refine x_getI 35 1 1 rfl dX5_readToken_32 rfl fX5_23 rfl rfl (fun g32 => ?_)
          refine x_iconst 36 dX5_readToken_35 rfl ?_
          refine x_iadd 37 dX5_readToken_36 rfl ?_
          refine x_putI 40 1 1 rfl dX5_readToken_37 rfl fX5_23 rfl rfl rfl (by omega) ?_
          refine x_goto 0 dX5_readToken_40 (by decide) ?_
          refine ih (q + 1) _ _ (by omega) (by omega) (by omega) (by rw [up2_s, e1]) (by rw [← scan_go (by omega) (decide_eq_true (by omega))]; exact hs) ⟨fun a ha => ?_, ?_, ?_⟩
          · rw [up2_o _ _ _ ha]; exact i0 a ha
          · rw [up2_k _ _ _ (by omega)]; exact i5
          · rw [up2_k _ _ _ (by omega)]; exact i6
  exact loop ((n - p).toNat + 1) p M _ (by omega) (by omega) (by omega) hp rfl ⟨fun _ _ => rfl, rfl, rfl⟩

set_option maxHeartbeats 4000000 in
theorem c_readNumber {g : GG} {M : Mem} {n : Int} {b : Int → Int} (hT : TP M n b) (p : Int) (hp : M 1 1 = p) (hpn : 0 ≤ p ∧ p ≤ n) (m : Int) (hm : 0 ≤ m ∧ m ≤ 99) : CI g tX5_readNumber 3 [rv g 1, iv m] M (fun r M2 => (∀ a, a ≠ 1 → M2 a = M a) ∧ M2 1 3 = tkS b n p ∧ r = bI (numO b n p m = 0) ∧ (numO b n p m ≠ 0 → M2 1 5 = numO b n p m ∧ M2 1 6 = tkS b n p) ∧ (numO b n p m = 0 → M2 1 1 = tkE b n p ∧ (tkK b n p = 2 → M2 1 4 = tkV b n p) ∧ M2 1 5 = M 1 5 ∧ M2 1 6 = M 1 6)) := by
  refine Con.of [some (rv g 1), some (iv m)] (by decide +kernel) rfl (Nat.le_of_ble_eq_true rfl) ?_
  refine x_aload_n 1 0 dX5_readNumber_0 rfl rfl (by decide) rfl ?_
  refine x_vi 4 [] (c_readToken hT p hp hpn) mX5_readToken kX5_33 dX5_readNumber_1 rfl rfl ⟨by decide, rfl⟩ rfl rfl (Nat.le_of_ble_eq_true rfl) (by decide) (fun r M2 q2 => ?_)
  obtain ⟨rfl, t0, t3, tb, tg⟩ := q2
  refine x_ifne_b 9 7 dX5_readNumber_4 (by decide) rfl (fun h4 => ?_) (fun h4 => ?_)
  · have hb : tkBb b n p = false := by assumption
    obtain ⟨g1, g2, g4, g5, g6⟩ := tg hb
    have vb := tkV_bd hpn.2 hb
    refine x_aload_n 10 0 dX5_readNumber_9 rfl rfl (by decide) rfl ?_
    refine x_getI 13 2 2 rfl dX5_readNumber_10 rfl fX5_37 rfl rfl (fun g10 => ?_)
    refine x_iconst 14 dX5_readNumber_13 rfl ?_
    refine x_icmp_eq 23 17 dX5_readNumber_14 (by decide) rfl (by omega) (fun h14 => ?_) (fun h14 => ?_)
    · refine x_aload_n 24 0 dX5_readNumber_23 rfl rfl (by decide) rfl ?_
      refine x_getI 27 4 4 rfl dX5_readNumber_24 rfl fX5_65 rfl rfl (fun g24 => ?_)
      refine x_iload_n 28 1 dX5_readNumber_27 rfl rfl (by decide) rfl ?_
      refine x_icmp_le 39 31 dX5_readNumber_28 (by decide) rfl (by omega) (fun h28 => ?_) (fun h28 => ?_)
      · refine x_iconst 40 dX5_readNumber_39 rfl ?_
        refine x_goto 44 dX5_readNumber_40 (by decide) ?_
        refine x_zret dX5_readNumber_44 rfl (by first | exact Or.inl rfl | exact Or.inr rfl | exact bI_or _ | omega) ⟨rfl, Nat.le_refl _⟩ (qi_i ?_)
        first
          | (have hO : numO b n p m = 0 := by (unfold numO; rw [if_neg (by rw [hb]; decide), if_neg (by omega), if_neg (by rw [← g4 (by omega)]; omega)])
             rw [hO]
             exact ⟨t0, t3, rfl, fun z => absurd rfl z, fun _ => ⟨g1, g4, g5, g6⟩⟩)
          | (have hO : numO b n p m = 3 := by (unfold numO; rw [if_neg (by rw [hb]; decide), if_neg (by omega), if_pos (by rw [← g4 (by omega)]; omega)])
             rw [hO]
             refine ⟨fun a ha => by rw [up2_o _ _ _ ha, up2_o _ _ _ ha]; exact t0 a ha, ?_, rfl, fun _ => ⟨?_, ?_⟩, fun z => by omega⟩
             · rw [up2_k _ _ _ (by omega), up2_k _ _ _ (by omega)]; exact t3
             · rw [up2_k _ _ _ (by omega), up2_s]
             · rw [up2_s]; exact t3)
      · refine x_aload_n 32 0 dX5_readNumber_31 rfl rfl (by decide) rfl ?_
        refine x_iconst 33 dX5_readNumber_32 rfl ?_
        refine x_vi 36 [_] (c_refuse _ (by omega)) mX5_refuse kX5_43 dX5_readNumber_33 rfl rfl ⟨by decide, rfl⟩ rfl rfl (Nat.le_of_ble_eq_true rfl) (by decide) (fun r9 M9 q9 => ?_)
        obtain ⟨rfl, rfl⟩ := q9
        refine x_if_eq 43 39 dX5_readNumber_36 (by decide) rfl (by omega) (fun h36 => ?_) (fun h36 => ?_)
        · refine x_iconst 44 dX5_readNumber_43 rfl ?_
          refine x_zret dX5_readNumber_44 rfl (by first | exact Or.inl rfl | exact Or.inr rfl | exact bI_or _ | omega) ⟨rfl, Nat.le_refl _⟩ (qi_i ?_)
          first
            | (have hO : numO b n p m = 0 := by (unfold numO; rw [if_neg (by rw [hb]; decide), if_neg (by omega), if_neg (by rw [← g4 (by omega)]; omega)])
               rw [hO]
               exact ⟨t0, t3, rfl, fun z => absurd rfl z, fun _ => ⟨g1, g4, g5, g6⟩⟩)
            | (have hO : numO b n p m = 3 := by (unfold numO; rw [if_neg (by rw [hb]; decide), if_neg (by omega), if_pos (by rw [← g4 (by omega)]; omega)])
               rw [hO]
               refine ⟨fun a ha => by rw [up2_o _ _ _ ha, up2_o _ _ _ ha]; exact t0 a ha, ?_, rfl, fun _ => ⟨?_, ?_⟩, fun z => by omega⟩
               · rw [up2_k _ _ _ (by omega), up2_k _ _ _ (by omega)]; exact t3
               · rw [up2_k _ _ _ (by omega), up2_s]
               · rw [up2_s]; exact t3)
        · exfalso; omega
    · refine x_aload_n 18 0 dX5_readNumber_17 rfl rfl (by decide) rfl ?_
      refine x_iconst 19 dX5_readNumber_18 rfl ?_
      refine x_vi 22 [_] (c_refuse _ (by omega)) mX5_refuse kX5_43 dX5_readNumber_19 rfl rfl ⟨by decide, rfl⟩ rfl rfl (Nat.le_of_ble_eq_true rfl) (by decide) (fun r9 M9 q9 => ?_)
      obtain ⟨rfl, rfl⟩ := q9
      refine x_zret dX5_readNumber_22 rfl (by first | exact Or.inl rfl | exact Or.inr rfl | exact bI_or _ | omega) ⟨rfl, Nat.le_refl _⟩ (qi_i ?_)
      have hO : numO b n p m = 2 := by (unfold numO; rw [if_neg (by rw [hb]; decide), if_pos (by omega)])
      rw [hO]
      refine ⟨fun a ha => by rw [up2_o _ _ _ ha, up2_o _ _ _ ha]; exact t0 a ha, ?_, rfl, fun _ => ⟨?_, ?_⟩, fun z => by omega⟩
      · rw [up2_k _ _ _ (by omega), up2_k _ _ _ (by omega)]; exact t3
      · rw [up2_k _ _ _ (by omega), up2_s]
      · rw [up2_s]; exact t3
  · refine x_iconst 8 dX5_readNumber_7 rfl ?_
    refine x_zret dX5_readNumber_8 rfl (by first | exact Or.inl rfl | exact Or.inr rfl | exact bI_or _ | omega) ⟨rfl, Nat.le_refl _⟩ (qi_i ?_)
    have hb : tkBb b n p = true := by (cases hq : tkBb b n p with | true => rfl | false => exact absurd hq (by assumption))
    have hO : numO b n p m = 1 := by (unfold numO; rw [if_pos hb])
    rw [hO]
    exact ⟨t0, t3, rfl, fun _ => tb hb, fun z => by omega⟩

set_option maxHeartbeats 4000000 in
theorem c_readSign {g : GG} {M : Mem} {n : Int} {b : Int → Int} (hT : TP M n b) (p : Int) (hp : M 1 1 = p) (hpn : 0 ≤ p ∧ p ≤ n) : CI g tX5_readSign 3 [rv g 1] M (fun r M2 => (∀ a, a ≠ 1 → M2 a = M a) ∧ M2 1 3 = tkS b n p ∧ r = bI (sgnO b n p = 0) ∧ (sgnO b n p ≠ 0 → M2 1 5 = sgnO b n p ∧ M2 1 6 = tkS b n p) ∧ (sgnO b n p = 0 → M2 1 1 = tkE b n p ∧ (tkK b n p = 2 → M2 1 4 = tkV b n p) ∧ M2 1 5 = M 1 5 ∧ M2 1 6 = M 1 6)) := by
  refine Con.of [some (rv g 1)] (by decide +kernel) rfl (Nat.le_of_ble_eq_true rfl) ?_
  refine x_aload_n 1 0 dX5_readSign_0 rfl rfl (by decide) rfl ?_
  refine x_vi 4 [] (c_readToken hT p hp hpn) mX5_readToken kX5_33 dX5_readSign_1 rfl rfl ⟨by decide, rfl⟩ rfl rfl (Nat.le_of_ble_eq_true rfl) (by decide) (fun r M2 q2 => ?_)
  obtain ⟨rfl, t0, t3, tb, tg⟩ := q2
  refine x_ifne_b 9 7 dX5_readSign_4 (by decide) rfl (fun h4 => ?_) (fun h4 => ?_)
  · have hb : tkBb b n p = false := by assumption
    obtain ⟨g1, g2, g4, g5, g6⟩ := tg hb
    refine x_aload_n 10 0 dX5_readSign_9 rfl rfl (by decide) rfl ?_
    refine x_getI 13 2 2 rfl dX5_readSign_10 rfl fX5_37 rfl rfl (fun g10 => ?_)
    refine x_iconst 14 dX5_readSign_13 rfl ?_
    refine x_icmp_eq 25 17 dX5_readSign_14 (by decide) rfl (by omega) (fun h14 => ?_) (fun h14 => ?_)
    · refine x_iconst 26 dX5_readSign_25 rfl ?_
      refine x_goto 30 dX5_readSign_26 (by decide) ?_
      refine x_zret dX5_readSign_30 rfl (by first | exact Or.inl rfl | exact Or.inr rfl | exact bI_or _ | omega) ⟨rfl, Nat.le_refl _⟩ (qi_i ?_)
      first
        | (have hO : sgnO b n p = 0 := by (unfold sgnO; rw [if_neg (by rw [hb]; decide), if_neg (by omega)])
           rw [hO]
           exact ⟨t0, t3, rfl, fun z => absurd rfl z, fun _ => ⟨g1, g4, g5, g6⟩⟩)
        | (have hO : sgnO b n p = 2 := by (unfold sgnO; rw [if_neg (by rw [hb]; decide), if_pos (by omega)])
           rw [hO]
           refine ⟨fun a ha => by rw [up2_o _ _ _ ha, up2_o _ _ _ ha]; exact t0 a ha, ?_, rfl, fun _ => ⟨?_, ?_⟩, fun z => by omega⟩
           · rw [up2_k _ _ _ (by omega), up2_k _ _ _ (by omega)]; exact t3
           · rw [up2_k _ _ _ (by omega), up2_s]
           · rw [up2_s]; exact t3)
    · refine x_aload_n 18 0 dX5_readSign_17 rfl rfl (by decide) rfl ?_
      refine x_iconst 19 dX5_readSign_18 rfl ?_
      refine x_vi 22 [_] (c_refuse _ (by omega)) mX5_refuse kX5_43 dX5_readSign_19 rfl rfl ⟨by decide, rfl⟩ rfl rfl (Nat.le_of_ble_eq_true rfl) (by decide) (fun r9 M9 q9 => ?_)
      obtain ⟨rfl, rfl⟩ := q9
      refine x_if_eq 29 25 dX5_readSign_22 (by decide) rfl (by omega) (fun h22 => ?_) (fun h22 => ?_)
      · refine x_iconst 30 dX5_readSign_29 rfl ?_
        refine x_zret dX5_readSign_30 rfl (by first | exact Or.inl rfl | exact Or.inr rfl | exact bI_or _ | omega) ⟨rfl, Nat.le_refl _⟩ (qi_i ?_)
        first
          | (have hO : sgnO b n p = 0 := by (unfold sgnO; rw [if_neg (by rw [hb]; decide), if_neg (by omega)])
             rw [hO]
             exact ⟨t0, t3, rfl, fun z => absurd rfl z, fun _ => ⟨g1, g4, g5, g6⟩⟩)
          | (have hO : sgnO b n p = 2 := by (unfold sgnO; rw [if_neg (by rw [hb]; decide), if_pos (by omega)])
             rw [hO]
             refine ⟨fun a ha => by rw [up2_o _ _ _ ha, up2_o _ _ _ ha]; exact t0 a ha, ?_, rfl, fun _ => ⟨?_, ?_⟩, fun z => by omega⟩
             · rw [up2_k _ _ _ (by omega), up2_k _ _ _ (by omega)]; exact t3
             · rw [up2_k _ _ _ (by omega), up2_s]
             · rw [up2_s]; exact t3)
      · exfalso; omega
  · refine x_iconst 8 dX5_readSign_7 rfl ?_
    refine x_zret dX5_readSign_8 rfl (by first | exact Or.inl rfl | exact Or.inr rfl | exact bI_or _ | omega) ⟨rfl, Nat.le_refl _⟩ (qi_i ?_)
    have hb : tkBb b n p = true := by (cases hq : tkBb b n p with | true => rfl | false => exact absurd hq (by assumption))
    have hO : sgnO b n p = 1 := by (unfold sgnO; rw [if_pos hb])
    rw [hO]
    exact ⟨t0, t3, rfl, fun _ => tb hb, fun z => by omega⟩
