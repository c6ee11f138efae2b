def mxN (f : Int → Nat) : Nat → Nat
  | 0 => 0
  | j + 1 => max (mxN f j) (f j)
theorem mxN_6 {f : Int → Nat} (h5 : f 5 = 0) (h6 : f 6 = 0) (h7 : f 7 = 0) (h8 : f 8 = 0) : mxN f 10 = mx6 f := by
  show max (max (max (max (max (max (max (max (max (max 0 (f 0)) (f 1)) (f 2)) (f 3)) (f 4)) (f 5)) (f 6)) (f 7)) (f 8)) (f 9) = mx6 f
  unfold mx6
  omega
theorem mxN_le {f : Int → Nat} {c : Nat} (h : ∀ x, f x ≤ c) : ∀ j, mxN f j ≤ c
  | 0 => Nat.zero_le _
  | j + 1 => by
    have h1 := mxN_le h j
    have h2 := h (j : Int)
    show max (mxN f j) (f j) ≤ c
    omega
theorem cntW_0 {p : Nat → Bool} {w : Nat → Int} {x : Int} : ∀ n, (∀ v, v < n → w v ≠ x) → cntW p w x n = 0
  | 0, _ => rfl
  | n + 1, h => by
    rw [cntW_s, cntW_0 n (fun v hv => h v (by omega)), if_neg (fun q => h n (by omega) q.2)]

set_option maxHeartbeats 4000000 in
theorem r_ask {g : GG} {M : Mem} {s : ST} (hC : Mdl M s) (hO : SOK s) (t w : Int) (ht : -2147483648 ≤ t ∧ t ≤ 2147483647) (hw : -2147483648 ≤ w ∧ w ≤ 2147483647) : CI g tX7_ask 6 [rv g 50, iv t, iv w] M (PM M (aAsk s t w) s) := by
  refine Con.of [some (rv g 50), some (iv t), some (iv w), none, none, none, none, none, none, none, none] (by decide +kernel) rfl (Nat.le_of_ble_eq_true rfl) ?_
  obtain ⟨hV, ⟨hk0, hk1, hi0, hi1⟩, ⟨hT1, hT2⟩, ⟨hS1, hS2⟩, hZ, hN, hF, hKs, hMC⟩ := id hC
  obtain ⟨oV, oW, oI0, oI1, oT, oTb, oS, oSb, oZ⟩ := id hO
  have e1 : M 50 1 = vn (sV s) := hV.2.1
  have e40 : M 51 40 = vf (sV s) := hV.F (by omega)
  have e41 : M 51 41 = vw (sV s) := hV.W (by omega)
  have o1 := oV.1
  have o2 := oV.2.1
  have o3 := oV.2.2.1
  refine x_aload_n 1 0 dX7_ask_0 rfl rfl (by decide) rfl ?_
  refine x_iload_n 2 1 dX7_ask_1 rfl rfl (by decide) rfl ?_
  refine x_vp 5 [_] (m_isTown _ t e1 (by omega) (by omega)) mX7_isTown kX7_131 dX7_ask_2 rfl rfl ⟨by decide, rfl⟩ rfl rfl (Nat.le_of_ble_eq_true rfl) (by decide) ?_
  refine x_ifeq_b 18 8 dX7_ask_5 (by decide) rfl (fun h5 => ?_) (fun h5 => ?_)
  · refine x_iconst 19 dX7_ask_18 rfl ?_
    refine x_iret dX7_ask_19 rfl ⟨rfl, Nat.le_refl _⟩ (qi_i ?_)
    refine PM.same hC ?_
    unfold aAsk; rw [if_neg (by omega)]
  · refine x_iload_n 9 2 dX7_ask_8 rfl rfl (by decide) rfl ?_
    refine x_i2l 10 dX7_ask_9 rfl (by omega) ?_
    refine x_lconst 11 dX7_ask_10 rfl 0 rfl ?_
    refine x_lconst 12 dX7_ask_11 rfl 1 rfl ?_
    refine x_sp 15 [_, _, _] (m_in _ _ _ (by omega) (by omega) (by omega)) mX7_in kX7_53 dX7_ask_12 rfl rfl rfl (Nat.le_of_ble_eq_true rfl) (by decide) ?_
    refine x_ifne_b 20 18 dX7_ask_15 (by decide) rfl (fun h15 => ?_) (fun h15 => ?_)
    · have ht2 : 0 ≤ t ∧ t < vn (sV s) := by omega
      refine x_aload_n 21 0 dX7_ask_20 rfl rfl (by decide) rfl ?_
      refine x_iconst 22 dX7_ask_21 rfl ?_
      refine x_iload_n 23 1 dX7_ask_22 rfl rfl (by decide) rfl ?_
      refine x_iadd 24 dX7_ask_23 rfl ?_
      refine x_bipush 26 dX7_ask_24 rfl (by decide) ?_
      refine x_vi 29 [_, _] (m_numbersAt hKs (sc s).toNat (sw s) (sl s) (by omega) (by omega) (fun i hi => hS2 i (by omega) (by omega)) (5 + t) (by omega) 20 (by omega) (fun x => sTry s t x) (fun x hx => sTry_WF hO t hx) (fun x hx => oW) (fun M2 x hx h1 h2 h3 => RP_atS hV (by omega) h1 h2 h3)) mX7_numbersAt kX7_232 dX7_ask_26 rfl rfl ⟨by decide, rfl⟩ rfl rfl (Nat.le_of_ble_eq_true rfl) (by decide) (fun r2 M2 q2 => ?_)
      obtain ⟨rfl, hSM, hrow⟩ := q2
      have hbl : bitN (stB s t) 21 < 2 ^ 21 := bitN_lt _ _
      have hbl2 : bitN (stB s t) 21 < 2097152 := hbl
      have hrow2 : ∀ x k : Nat, x < 21 → k < 21 → M2 58 (21 * (x : Int) + k) = whoL (sTry s t x) k := fun x k h1 h2 => hrow x k (by omega) h2
      have hwin : ∀ v k : Nat, v < 21 → whoL (sTry s t v) k = 9 ∨ (0 ≤ whoL (sTry s t v) k ∧ whoL (sTry s t v) k ≤ 4) := fun v k hv => whoL_in (sTry_WF hO t (by omega)) k
      have hbit : ∀ v : Nat, v < 21 → bitN (stB s t) 21 / 2 ^ v % 2 = if stB s t v = true then 1 else 0 := fun v hv => bitN_bit _ 21 v hv
      have main : ∀ (m k : Nat) (j7 j8 j9 j10 : Option Value), 21 - k < m → k ≤ 21 → Bd (askB s t k) → X g tX7_ask (kk0 6) 67 [some (rv g 50), some (iv t), some (iv w), some (iv (bitN (stB s t) 21 : Nat)), some (iv (askB s t k).2), some (iv (askB s t k).1), some (iv k), j7, j8, j9, j10] [] (S0, R0, M2) (QI (PM M (aAsk s t w) s)) := by
        intro m
        induction m with
        | zero => intro k j7 j8 j9 j10 k1 k2; omega
        | succ m ih =>
          intro k j7 j8 j9 j10 k1 k2 hB
          obtain ⟨hB1, hB2⟩ := id hB
          have hwle := worst_le s t k 21
          have hst : (askB s t (k + 1)) = off (askB s t k) k (worst s t k 21 : Nat) := rfl
          have hcle : ∀ x, (fun x => cntW (stB s t) (fun v => whoL (sTry s t v) k) x 21) x ≤ 21 := fun x => cntW_le _ _ x 21
          have hmx : k < 21 → mxN (fun x => cntW (stB s t) (fun v => whoL (sTry s t v) k) x 21) 10 = worst s t k 21 := fun hk => mxN_6 (cntW_0 21 (fun v hv => by have := hwin v k hv; omega)) (cntW_0 21 (fun v hv => by have := hwin v k hv; omega)) (cntW_0 21 (fun v hv => by have := hwin v k hv; omega)) (cntW_0 21 (fun v hv => by have := hwin v k hv; omega))
          have whos : k < 21 → ∀ (m2 j : Nat) (j9 j10 : Option Value), 10 - j < m2 → j ≤ 10 → X g tX7_ask (kk0 6) 80 [some (rv g 50), some (iv t), some (iv w), some (iv (bitN (stB s t) 21 : Nat)), some (iv (askB s t k).2), some (iv (askB s t k).1), some (iv k), some (iv (mxN (fun x => cntW (stB s t) (fun v => whoL (sTry s t v) k) x 21) j : Nat)), some (iv j), j9, j10] [] (S0, R0, M2) (QI (PM M (aAsk s t w) s)) := by
            intro hk m2
            induction m2 with
            | zero => intro j j9 j10 q1 q2; omega
            | succ m2 ih2 =>
              intro j j9 j10 q1 q2
              have hml := mxN_le hcle j
              have hms : mxN (fun x => cntW (stB s t) (fun v => whoL (sTry s t v) k) x 21) (j + 1) = max (mxN (fun x => cntW (stB s t) (fun v => whoL (sTry s t v) k) x 21) j) ((fun x => cntW (stB s t) (fun v => whoL (sTry s t v) k) x 21) j) := rfl
              have cnt : j < 10 → ∀ (m3 v : Nat), 21 - v < m3 → v ≤ 21 → X g tX7_ask (kk0 6) 93 [some (rv g 50), some (iv t), some (iv w), some (iv (bitN (stB s t) 21 : Nat)), some (iv (askB s t k).2), some (iv (askB s t k).1), some (iv k), some (iv (mxN (fun x => cntW (stB s t) (fun v => whoL (sTry s t v) k) x 21) j : Nat)), some (iv j), some (iv (cntW (stB s t) (fun v => whoL (sTry s t v) k) j v : Nat)), some (iv v)] [] (S0, R0, M2) (QI (PM M (aAsk s t w) s)) := by
                intro hj m3
                induction m3 with
                | zero => intro v r1 r2; omega
                | succ m3 ih3 =>
                  intro v r1 r2
                  have hcl := cntW_le (stB s t) (fun v => whoL (sTry s t v) k) (j : Int) v
                  have hcs := cntW_s (stB s t) (fun v => whoL (sTry s t v) k) (j : Int) v
                  refine x_iload 95 10 dX7_ask_93 rfl (by decide) rfl ?_
                  refine x_bipush 97 dX7_ask_95 rfl (by decide) ?_
                  refine x_icmp_gt 144 100 dX7_ask_97 (by decide) rfl (by omega) (fun h97 => ?_) (fun h97 => ?_)
                  · have ev : v = 21 := by omega
                    subst ev
                    refine x_cut 158 (fun z => z = ((mxN (fun x => cntW (stB s t) (fun v => whoL (sTry s t v) k) x 21) (j + 1) : Nat) : Int)) (fun tail144 => ?_) (fun z144 hz144 => ?_)
                    · refine x_iload 146 9 dX7_ask_144 rfl (by decide) rfl ?_
                      refine x_iload 148 7 dX7_ask_146 rfl (by decide) rfl ?_
                      refine x_icmp_le 156 151 dX7_ask_148 (by decide) rfl (by omega) (fun h148 => ?_) (fun h148 => ?_)
                      · refine x_iload 158 7 dX7_ask_156 rfl (by decide) rfl ?_
                        exact tail144 _ (by have hcf : (fun x => cntW (stB s t) (fun v => whoL (sTry s t v) k) x 21) (j : Int) = cntW (stB s t) (fun v => whoL (sTry s t v) k) j 21 := rfl; omega)
                      · refine x_iload 153 9 dX7_ask_151 rfl (by decide) rfl ?_
                        refine x_goto 158 dX7_ask_153 (by decide) ?_
                        exact tail144 _ (by have hcf : (fun x => cntW (stB s t) (fun v => whoL (sTry s t v) k) x 21) (j : Int) = cntW (stB s t) (fun v => whoL (sTry s t v) k) j 21 := rfl; omega)
                    · subst z144
                      refine x_istore 160 7 _ dX7_ask_158 rfl (by decide) rfl rfl ?_
                      refine x_iinc 163 _ dX7_ask_160 rfl (by decide) rfl rfl rfl ?_
                      refine x_goto 80 dX7_ask_163 (by decide) ?_
                      exact ih2 (j + 1) _ _ (by omega) (by omega)
                  · have hbv := hbit v (by omega)
                    have hrv := hrow2 v k (by omega) hk
                    have hwv := hwin v k (by omega)
                    refine x_iload 102 9 dX7_ask_100 rfl (by decide) rfl ?_
                    refine x_cut 135 (fun z => z = ((if stB s t v = true ∧ whoL (sTry s t v) k = (j : Int) then 1 else 0 : Nat) : Int)) (fun tail102 => ?_) (fun z102 hz102 => ?_)
                    · refine x_iload_n 103 3 dX7_ask_102 rfl rfl (by decide) rfl ?_
                      refine x_iload 105 10 dX7_ask_103 rfl (by decide) rfl ?_
                      refine x_ishr 106 ((bitN (stB s t) 21 / 2 ^ v : Nat) : Int) dX7_ask_105 rfl (shr_bit (by omega) (by omega)) ?_
                      refine x_iconst 107 dX7_ask_106 rfl ?_
                      refine x_iand 108 ((bitN (stB s t) 21 / 2 ^ v % 2 : Nat) : Int) dX7_ask_107 rfl (and_1 (Nat.lt_of_le_of_lt (Nat.div_le_self _ _) (by omega))) ?_
                      refine x_iconst 109 dX7_ask_108 rfl ?_
                      refine x_icmp_ne 134 112 dX7_ask_109 (by decide) rfl (by omega) (fun h109 => ?_) (fun h109 => ?_)
                      · refine x_iconst 135 dX7_ask_134 rfl ?_
                        by_cases hsb : stB s t v = true
                        · rw [if_pos hsb] at hbv
                          first
                            | exact tail102 _ (by rw [if_pos ⟨hsb, by omega⟩]; rfl)
                            | exact tail102 _ (by rw [if_neg (by omega)]; rfl)
                            | (exfalso; omega)
                        · rw [if_neg hsb] at hbv
                          first
                            | exact tail102 _ (by rw [if_neg (fun q => hsb q.1)]; rfl)
                            | (exfalso; omega)
                      · refine x_aload_n 113 0 dX7_ask_112 rfl rfl (by decide) rfl ?_
                        refine x_getR 116 23 58 dX7_ask_113 rfl fX7_35 rfl rfl rfl ?_
                        refine x_bipush 118 dX7_ask_116 rfl (by decide) ?_
                        refine x_iload 120 10 dX7_ask_118 rfl (by decide) rfl ?_
                        refine x_imul 121 dX7_ask_120 rfl ?_
                        refine x_iload 123 6 dX7_ask_121 rfl (by decide) rfl ?_
                        refine x_iadd 124 dX7_ask_123 rfl ?_
                        refine x_iaload 125 dX7_ask_124 rfl rfl (by omega) (fun g124 => ?_)
                        rw [hrv]
                        refine x_iload 127 8 dX7_ask_125 rfl (by decide) rfl ?_
                        refine x_icmp_ne 134 130 dX7_ask_127 (by decide) rfl (by omega) (fun h127 => ?_) (fun h127 => ?_)
                        · refine x_iconst 135 dX7_ask_134 rfl ?_
                          by_cases hsb : stB s t v = true
                          · rw [if_pos hsb] at hbv
                            first
                              | exact tail102 _ (by rw [if_pos ⟨hsb, by omega⟩]; rfl)
                              | exact tail102 _ (by rw [if_neg (by omega)]; rfl)
                              | (exfalso; omega)
                          · rw [if_neg hsb] at hbv
                            first
                              | exact tail102 _ (by rw [if_neg (fun q => hsb q.1)]; rfl)
                              | (exfalso; omega)
                        · refine x_iconst 131 dX7_ask_130 rfl ?_
                          refine x_goto 135 dX7_ask_131 (by decide) ?_
                          by_cases hsb : stB s t v = true
                          · rw [if_pos hsb] at hbv
                            first
                              | exact tail102 _ (by rw [if_pos ⟨hsb, by omega⟩]; rfl)
                              | exact tail102 _ (by rw [if_neg (by omega)]; rfl)
                              | (exfalso; omega)
                          · rw [if_neg hsb] at hbv
                            first
                              | exact tail102 _ (by rw [if_neg (fun q => hsb q.1)]; rfl)
                              | (exfalso; omega)
                    · subst z102
                      refine x_iadd 136 dX7_ask_135 rfl ?_
                      refine x_istore 138 9 _ dX7_ask_136 rfl (by decide) rfl rfl ?_
                      refine x_iinc 141 _ dX7_ask_138 rfl (by decide) rfl rfl rfl ?_
                      refine x_goto 93 dX7_ask_141 (by decide) ?_
                      rw [← Int.natCast_add, ← hcs]
                      exact ih3 (v + 1) (by omega) (by omega)
              refine x_iload 82 8 dX7_ask_80 rfl (by decide) rfl ?_
              refine x_bipush 84 dX7_ask_82 rfl (by decide) ?_
              refine x_icmp_gt 166 87 dX7_ask_84 (by decide) rfl (by omega) (fun h84 => ?_) (fun h84 => ?_)
              · have ej : j = 10 := by omega
                rw [show mxN (fun x => cntW (stB s t) (fun v => whoL (sTry s t v) k) x 21) j = worst s t k 21 by rw [ej]; exact hmx hk]
                refine x_cut 180 (fun z => z = (off (askB s t k) k (worst s t k 21 : Nat)).1) (fun tail166 => ?_) (fun z166 hz166 => ?_)
                · refine x_iload 168 7 dX7_ask_166 rfl (by decide) rfl ?_
                  refine x_iload 170 4 dX7_ask_168 rfl (by decide) rfl ?_
                  refine x_icmp_ge 178 173 dX7_ask_170 (by decide) rfl (by omega) (fun h170 => ?_) (fun h170 => ?_)
                  · refine x_iload 180 5 dX7_ask_178 rfl (by decide) rfl ?_
                    exact tail166 _ (off_1 (by omega))
                  · refine x_iload 175 6 dX7_ask_173 rfl (by decide) rfl ?_
                    refine x_goto 180 dX7_ask_175 (by decide) ?_
                    exact tail166 _ (off_1 (by omega))
                · subst z166
                  refine x_istore 182 5 _ dX7_ask_180 rfl (by decide) rfl rfl ?_
                  refine x_cut 196 (fun z => z = (off (askB s t k) k (worst s t k 21 : Nat)).2) (fun tail182 => ?_) (fun z182 hz182 => ?_)
                  · refine x_iload 184 7 dX7_ask_182 rfl (by decide) rfl ?_
                    refine x_iload 186 4 dX7_ask_184 rfl (by decide) rfl ?_
                    refine x_icmp_ge 194 189 dX7_ask_186 (by decide) rfl (by omega) (fun h186 => ?_) (fun h186 => ?_)
                    · refine x_iload 196 4 dX7_ask_194 rfl (by decide) rfl ?_
                      exact tail182 _ (off_2 (by omega))
                    · refine x_iload 191 7 dX7_ask_189 rfl (by decide) rfl ?_
                      refine x_goto 196 dX7_ask_191 (by decide) ?_
                      exact tail182 _ (off_2 (by omega))
                  · subst z182
                    refine x_istore 198 4 _ dX7_ask_196 rfl (by decide) rfl rfl ?_
                    refine x_iinc 201 _ dX7_ask_198 rfl (by decide) rfl rfl rfl ?_
                    refine x_goto 67 dX7_ask_201 (by decide) ?_
                    have e0 := ih (k + 1) (some (iv (worst s t k 21 : Nat))) (some (iv j)) j9 j10 (by omega) (by omega) (by rw [hst]; exact off_b hB (by omega) (by omega))
                    rw [hst] at e0
                    exact e0
              · refine x_iconst 88 dX7_ask_87 rfl ?_
                refine x_istore 90 9 _ dX7_ask_88 rfl (by decide) rfl rfl ?_
                refine x_iconst 91 dX7_ask_90 rfl ?_
                refine x_istore 93 10 _ dX7_ask_91 rfl (by decide) rfl rfl ?_
                exact cnt (by omega) 22 0 (by omega) (by omega)
          refine x_iload 69 6 dX7_ask_67 rfl (by decide) rfl ?_
          refine x_bipush 71 dX7_ask_69 rfl (by decide) ?_
          refine x_icmp_gt 204 74 dX7_ask_71 (by decide) rfl (by omega) (fun h71 => ?_) (fun h71 => ?_)
          · refine x_iload 206 5 dX7_ask_204 rfl (by decide) rfl ?_
            refine x_bipush 208 dX7_ask_206 rfl (by decide) ?_
            refine x_icmp_eq 215 211 dX7_ask_208 (by decide) rfl (by omega) (fun h208 => ?_) (fun h208 => ?_)
            · refine x_iload 217 5 dX7_ask_215 rfl (by decide) rfl ?_
              refine x_goto 222 dX7_ask_217 (by decide) ?_
              refine x_iret dX7_ask_222 rfl ⟨rfl, Nat.le_refl _⟩ (qi_i ?_)
              have ek : k = 21 := by omega
              subst ek
              refine PM.scr hC ?_ hSM
              have y : aAsk s t w = ansB (askB s t 21) w := by (unfold aAsk; rw [if_pos (by omega)])
              rw [y]
              first | exact ansB_a (by omega) | exact ansB_b (by omega) (by omega)
            · refine x_iload_n 212 2 dX7_ask_211 rfl rfl (by decide) rfl ?_
              refine x_if_ne 220 215 dX7_ask_212 (by decide) rfl (by omega) (fun h212 => ?_) (fun h212 => ?_)
              · refine x_iload 222 4 dX7_ask_220 rfl (by decide) rfl ?_
                refine x_iret dX7_ask_222 rfl ⟨rfl, Nat.le_refl _⟩ (qi_i ?_)
                have ek : k = 21 := by omega
                subst ek
                refine PM.scr hC ?_ hSM
                have y : aAsk s t w = ansB (askB s t 21) w := by (unfold aAsk; rw [if_pos (by omega)])
                rw [y]
                first | exact ansB_a (by omega) | exact ansB_b (by omega) (by omega)
              · refine x_iload 217 5 dX7_ask_215 rfl (by decide) rfl ?_
                refine x_goto 222 dX7_ask_217 (by decide) ?_
                refine x_iret dX7_ask_222 rfl ⟨rfl, Nat.le_refl _⟩ (qi_i ?_)
                have ek : k = 21 := by omega
                subst ek
                refine PM.scr hC ?_ hSM
                have y : aAsk s t w = ansB (askB s t 21) w := by (unfold aAsk; rw [if_pos (by omega)])
                rw [y]
                first | exact ansB_a (by omega) | exact ansB_b (by omega) (by omega)
          · refine x_iconst 75 dX7_ask_74 rfl ?_
            refine x_istore 77 7 _ dX7_ask_75 rfl (by decide) rfl rfl ?_
            refine x_iconst 78 dX7_ask_77 rfl ?_
            refine x_istore 80 8 _ dX7_ask_78 rfl (by decide) rfl rfl ?_
            exact whos (by omega) 11 0 _ _ (by omega) (by omega)
      have bits : ∀ (m v : Nat), 21 - v < m → v ≤ 21 → X g tX7_ask (kk0 6) 36 [some (rv g 50), some (iv t), some (iv w), some (iv (bitN (stB s t) 21 : Nat)), some (iv ((bsum (bitN (stB s t) 21) v : Nat) : Int)), some (iv v), none, none, none, none, none] [] (S0, R0, M2) (QI (PM M (aAsk s t w) s)) := by
        intro m
        induction m with
        | zero => intro v k1 k2; omega
        | succ m ih =>
          intro v k1 k2
          have hbsl := bsum_le (bitN (stB s t) 21) v
          have hbs : bsum (bitN (stB s t) 21) (v + 1) = bsum (bitN (stB s t) 21) v + bitN (stB s t) 21 / 2 ^ v % 2 := rfl
          refine x_iload 38 5 dX7_ask_36 rfl (by decide) rfl ?_
          refine x_bipush 40 dX7_ask_38 rfl (by decide) ?_
          refine x_icmp_gt 60 43 dX7_ask_40 (by decide) rfl (by omega) (fun h40 => ?_) (fun h40 => ?_)
          · refine x_bipush 62 dX7_ask_60 rfl (by decide) ?_
            refine x_istore 64 5 _ dX7_ask_62 rfl (by decide) rfl rfl ?_
            refine x_iconst 65 dX7_ask_64 rfl ?_
            refine x_istore 67 6 _ dX7_ask_65 rfl (by decide) rfl rfl ?_
            have ev : v = 21 := by omega
            subst ev
            exact main 22 0 _ _ _ _ (by omega) (by omega) ⟨⟨by show (-4 : Int) ≤ -4; omega, by show (-4 : Int) ≤ 1000; omega⟩, by show (0 : Int) ≤ ((bsum (bitN (stB s t) 21) 21 : Nat) : Int); omega, by show ((bsum (bitN (stB s t) 21) 21 : Nat) : Int) ≤ 1000000; omega⟩
          · refine x_iload 45 4 dX7_ask_43 rfl (by decide) rfl ?_
            refine x_iload_n 46 3 dX7_ask_45 rfl rfl (by decide) rfl ?_
            refine x_iload 48 5 dX7_ask_46 rfl (by decide) rfl ?_
            refine x_ishr 49 ((bitN (stB s t) 21 / 2 ^ v : Nat) : Int) dX7_ask_48 rfl (shr_bit (by omega) (by omega)) ?_
            refine x_iconst 50 dX7_ask_49 rfl ?_
            refine x_iand 51 ((bitN (stB s t) 21 / 2 ^ v % 2 : Nat) : Int) dX7_ask_50 rfl (and_1 (Nat.lt_of_le_of_lt (Nat.div_le_self _ _) (by omega))) ?_
            refine x_iadd 52 dX7_ask_51 rfl ?_
            refine x_istore 54 4 _ dX7_ask_52 rfl (by decide) rfl rfl ?_
            refine x_iinc 57 _ dX7_ask_54 rfl (by decide) rfl rfl rfl ?_
            refine x_goto 36 dX7_ask_57 (by decide) ?_
            rw [← Int.natCast_add, ← hbs]
            exact ih (v + 1) (by omega) (by omega)
      refine x_istore_n 30 3 _ dX7_ask_29 rfl rfl (by decide) rfl rfl ?_
      refine x_iconst 31 dX7_ask_30 rfl ?_
      refine x_istore 33 4 _ dX7_ask_31 rfl (by decide) rfl rfl ?_
      refine x_iconst 34 dX7_ask_33 rfl ?_
      refine x_istore 36 5 _ dX7_ask_34 rfl (by decide) rfl rfl ?_
      exact bits 22 0 (by omega) (by omega)
    · refine x_iconst 19 dX7_ask_18 rfl ?_
      refine x_iret dX7_ask_19 rfl ⟨rfl, Nat.le_refl _⟩ (qi_i ?_)
      refine PM.same hC ?_
      unfold aAsk; rw [if_neg (by omega)]
