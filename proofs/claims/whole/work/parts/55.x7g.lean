set_option maxHeartbeats 4000000 in
theorem m_lowest {g : GG} {M : Mem} (a b : Nat) (w : Int) (hw : 0 ≤ w ∧ w ≤ 1) (ha : a ≤ 9223372036854775807) (hb : b ≤ 9223372036854775807) (hb0 : 0 < b) : CJ g tX7_lowest 0 [jv a, jv b, iv w] M (low a b w) := by
  refine Con.of [some (jv a), none, some (jv b), none, some (iv w), none, none, none, none, none, none] (by decide +kernel) rfl (Nat.le_of_ble_eq_true rfl) ?_
  have loop : ∀ (m x y : Nat) (j9 : Option Value), y < m → x ≤ 9223372036854775807 → y ≤ 9223372036854775807 → Nat.gcd x y = Nat.gcd a b → (0 < x ∨ 0 < y) → X g tX7_lowest (kk0 0) 6 [some (jv a), none, some (jv b), none, some (iv w), some (jv x), none, some (jv y), none, j9, none] [] (S0, R0, M) (QJ M (low a b w)) := by
    intro m
    induction m with
    | zero => intro x y j9 k1; omega
    | succ m ih =>
      intro x y j9 k1 hx hy hg h0
      refine x_lload 8 7 dX7_lowest_6 rfl (by decide) rfl ?_
      refine x_lconst 9 dX7_lowest_8 rfl 0 rfl ?_
      refine x_lcmp 10 dX7_lowest_9 rfl (by omega) (fun c9 hc9 => ?_)
      refine x_if_eq 31 13 dX7_lowest_10 (by decide) rfl (by omega) (fun h10 => ?_) (fun h10 => ?_)
      · refine x_iload 33 4 dX7_lowest_31 rfl (by decide) rfl ?_
        refine x_if_ne 40 36 dX7_lowest_33 (by decide) rfl (by omega) (fun h33 => ?_) (fun h33 => ?_)
        · refine x_lload_n 41 2 dX7_lowest_40 rfl rfl (by decide) rfl ?_
          refine x_lload 43 5 dX7_lowest_41 rfl (by decide) rfl ?_
          refine x_ldiv 44 dX7_lowest_43 rfl (by omega) ?_
          refine x_lret dX7_lowest_44 rfl ⟨rfl, Nat.le_refl _⟩ (qj_i ?_ rfl)
          have y0 : y = 0 := by omega
          have hgx : Nat.gcd a b = x := by (rw [← hg, y0, Nat.gcd_zero_right])
          unfold low
          rw [hgx, show max 1 x = x by omega]
          first | rw [if_pos (by omega)] | rw [if_neg (by omega)]
        · refine x_lload_n 37 0 dX7_lowest_36 rfl rfl (by decide) rfl ?_
          refine x_goto 41 dX7_lowest_37 (by decide) ?_
          refine x_lload 43 5 dX7_lowest_41 rfl (by decide) rfl ?_
          refine x_ldiv 44 dX7_lowest_43 rfl (by omega) ?_
          refine x_lret dX7_lowest_44 rfl ⟨rfl, Nat.le_refl _⟩ (qj_i ?_ rfl)
          have y0 : y = 0 := by omega
          have hgx : Nat.gcd a b = x := by (rw [← hg, y0, Nat.gcd_zero_right])
          unfold low
          rw [hgx, show max 1 x = x by omega]
          first | rw [if_pos (by omega)] | rw [if_neg (by omega)]
      · refine x_lload 15 5 dX7_lowest_13 rfl (by decide) rfl ?_
        refine x_lload 17 7 dX7_lowest_15 rfl (by decide) rfl ?_
        refine x_lrem 18 dX7_lowest_17 rfl (by omega) ?_
        refine x_lstore 20 9 _ dX7_lowest_18 rfl (by decide) rfl rfl ?_
        refine x_lload 22 7 dX7_lowest_20 rfl (by decide) rfl ?_
        refine x_lstore 24 5 _ dX7_lowest_22 rfl (by decide) rfl rfl ?_
        refine x_lload 26 9 dX7_lowest_24 rfl (by decide) rfl ?_
        refine x_lstore 28 7 _ dX7_lowest_26 rfl (by decide) rfl rfl ?_
        refine x_goto 6 dX7_lowest_28 (by decide) ?_
        rw [show (x : Int) % (y : Int) = ((x % y : Nat) : Int) from rfl]
        have hy0 : 0 < y := by omega
        have hm := Nat.mod_lt x hy0
        exact ih y (x % y) _ (by omega) (by omega) (by omega) ((gcd_st x y).trans hg) (Or.inl hy0)
  refine x_lload_n 1 0 dX7_lowest_0 rfl rfl (by decide) rfl ?_
  refine x_lstore 3 5 _ dX7_lowest_1 rfl (by decide) rfl rfl ?_
  refine x_lload_n 4 2 dX7_lowest_3 rfl rfl (by decide) rfl ?_
  refine x_lstore 6 7 _ dX7_lowest_4 rfl (by decide) rfl rfl ?_
  exact loop (b + 1) a b none (by omega) ha hb rfl (Or.inr hb0)

theorem wgN_s {V n rain : Nat} : wgN V (n + 1) rain = wgN V n rain * (if rain / 2 ^ n % 2 = 1 then V else 10 - V) := by
  unfold wgN
  have hs : bsum rain (n + 1) = bsum rain n + rain / 2 ^ n % 2 := rfl
  have hl := bsum_le rain n
  rw [hs]
  by_cases h : rain / 2 ^ n % 2 = 1
  · rw [if_pos h, h, Nat.pow_succ, show n + 1 - (bsum rain n + 1) = n - bsum rain n by omega, Nat.mul_assoc, Nat.mul_assoc, Nat.mul_comm V]
  · have h0 : rain / 2 ^ n % 2 = 0 := by omega
    rw [if_neg h, h0, Nat.add_zero, show n + 1 - bsum rain n = (n - bsum rain n) + 1 by omega, Nat.pow_succ, Nat.mul_assoc]
theorem or_at : ∀ l, l < 32 → ∀ i, i < 5 → ∀ t, t < 5 → (l ||| 2 ^ i) / 2 ^ t % 2 = if i = t then 1 else l / 2 ^ t % 2 := by decide +kernel
theorem or_32 {l i : Nat} (h : l < 32) (hi : i < 5) : (l ||| 2 ^ i) < 32 := Nat.or_lt_two_pow (n := 5) h (Nat.pow_lt_pow_right (by omega) hi)
/-- who has lost in the first k weeks, as bits -/
def LBI (v : LV) (rain k l : Nat) : Prop := l < 32 ∧ ∀ t : Nat, t < 5 → ((l / 2 ^ t % 2 : Nat) : Int) = rnX v t rain k
def lzz (x : Int) : Nat := if x = -4 then 0 else 2 ^ x.toNat
theorem LBI_s {v : LV} {rain k l : Nat} (hW : WF v) (h : LBI v rain k l) : LBI v rain (k + 1) (l ||| lzz (wkL (rnV v rain k) (rbt rain k))) := by
  have hwf := rnV_WF hW rain k
  have hin := wkL_in hwf (rbt rain k)
  have hn5 := hwf.1
  unfold lzz
  rcases hin with e | e
  · rw [e, if_pos rfl, Nat.or_zero]
    refine ⟨h.1, fun t ht => ?_⟩
    rw [rnX_s, e, if_neg (by omega)]; exact h.2 t ht
  · rw [if_neg (by omega)]
    refine ⟨or_32 h.1 (by omega), fun t ht => ?_⟩
    rw [or_at l h.1 _ (by omega) t ht, rnX_s]
    by_cases q : (wkL (rnV v rain k) (rbt rain k)).toNat = t
    · rw [if_pos q, if_pos (by omega)]; rfl
    · rw [if_neg q, if_neg (by omega)]; exact h.2 t ht

set_option maxHeartbeats 4000000 in
theorem m_byRain {g : GG} {M : Mem} {v : LV} (hR : RP M 0 v) (hW : WF v) (hw9 : vw v ≤ 999) (hq : M 50 19 = -4) (V N : Nat) (hV10 : V ≤ 10) (hN : N ≤ 8) (t w : Int) (ht : t = -4 ∨ (0 ≤ t ∧ t < vn v)) (hw : 0 ≤ w ∧ w ≤ 1) (S : Nat → Nat) (hS0 : S 0 = 0) (hSb : S (2 ^ N) ≤ 12672000000000) (hS : ∀ rn, rn < 2 ^ N → ((S (rn + 1) : Nat) : Int) = ((S rn : Nat) : Int) + ((wgN V N rn : Nat) : Int) * (if t = -4 then owed (rnV v rn N) else rnX v t rn N)) : CL g tX7_byRain 4 [rv g 50, iv V, iv t, iv N, iv w] M (fun r M3 => r = low (S (2 ^ N)) (10 ^ N) w ∧ FP 168 M M3) := by
  refine Con.of [some (rv g 50), some (iv V), some (iv t), some (iv N), some (iv w), none, none, none, none, none, none, none, none, none, none] (by decide +kernel) rfl (Nat.le_of_ble_eq_true rfl) ?_
  have w1 := hW.1
  have hp8 := p8 (n := N) hN
  have h2p : 0 < 2 ^ N := Nat.pow_pos (by omega)
  have hl := low_pr (v := v) (a := S (2 ^ N)) (n := N) hSb hN
  have outer : ∀ (m rn : Nat) (M2 : Mem) (j10 j12 j13 j14 : Option Value), 2 ^ N - rn < m → rn ≤ 2 ^ N → FP 168 M M2 → X g tX7_byRain (kk0 4) 32 [some (rv g 50), some (iv V), some (iv t), some (iv N), some (iv w), some (jv ((S rn : Nat) : Int)), none, some (jv ((10 ^ N : Nat) : Int)), none, some (iv rn), j10, none, j12, j13, j14] [] (S0, R0, M2) (QL (fun r M3 => r = low (S (2 ^ N)) (10 ^ N) w ∧ FP 168 M M3)) := by
    intro m
    induction m with
    | zero => intro rn M2 j10 j12 j13 j14 k1 k2; omega
    | succ m ih =>
      intro rn M2 j10 j12 j13 j14 k1 k2 hF2
      have inner : rn < 2 ^ N → ∀ (m2 k l : Nat) (M3 : Mem) (j14 : Option Value), N - k < m2 → k ≤ N → LBI v rn k l → RP M3 168 (rnV v rn k) → FP 168 M M3 → X g tX7_byRain (kk0 4) 57 [some (rv g 50), some (iv V), some (iv t), some (iv N), some (iv w), some (jv ((S rn : Nat) : Int)), none, some (jv ((10 ^ N : Nat) : Int)), none, some (iv rn), some (jv (wgN V k rn : Nat)), none, some (iv l), some (iv k), j14] [] (S0, R0, M3) (QL (fun r M3 => r = low (S (2 ^ N)) (10 ^ N) w ∧ FP 168 M M3)) := by
        intro hrn m2
        induction m2 with
        | zero => intro k l M3 j14 q1 q2; omega
        | succ m2 ih2 =>
          intro k l M3 j14 q1 q2 hL hR3 hF3
          have hwf := rnV_WF hW rn k
          have hww := rnV_w v rn k
          have hrb := rbt_or rn k
          have hin := wkL_in hwf (rbt rn k)
          have hn5 := hwf.1
          have h19 : M3 50 19 = -4 := (hF3.2.1 19 (by omega) (by omega) (by omega)).trans hq
          have hl32 := hL.1
          have hstep := hS rn hrn
          refine x_iload 59 13 dX7_byRain_57 rfl (by decide) rfl ?_
          refine x_iload_n 60 3 dX7_byRain_59 rfl rfl (by decide) rfl ?_
          refine x_icmp_ge 140 63 dX7_byRain_60 (by decide) rfl (by omega) (fun h60 => ?_) (fun h60 => ?_)
          · have ek : k = N := by omega
            subst ek
            refine x_lload 142 5 dX7_byRain_140 rfl (by decide) rfl ?_
            refine x_lload 144 10 dX7_byRain_142 rfl (by decide) rfl ?_
            refine x_cut 166 (fun z => z = (if t = -4 then owed (rnV v rn k) else rnX v t rn k)) (fun tail144 => ?_) (fun z144 hz144 => ?_)
            · refine x_iload_n 145 2 dX7_byRain_144 rfl rfl (by decide) rfl ?_
              refine x_bipush 147 dX7_byRain_145 rfl (by decide) ?_
              refine x_icmp_ne 160 150 dX7_byRain_147 (by decide) rfl (by omega) (fun h147 => ?_) (fun h147 => ?_)
              · obtain ⟨T0, rfl⟩ := Int.eq_ofNat_of_zero_le (show 0 ≤ t by omega)
                refine x_iload 162 12 dX7_byRain_160 rfl (by decide) rfl ?_
                refine x_iload_n 163 2 dX7_byRain_162 rfl rfl (by decide) rfl ?_
                refine x_ishr 164 ((l / 2 ^ T0 : Nat) : Int) dX7_byRain_163 rfl (shr_bit (by omega) (by omega)) ?_
                refine x_iconst 165 dX7_byRain_164 rfl ?_
                refine x_iand 166 ((l / 2 ^ T0 % 2 : Nat) : Int) dX7_byRain_165 rfl (and_1 (Nat.lt_of_le_of_lt (Nat.div_le_self _ _) (by omega))) ?_
                first
                  | exact tail144 _ (by rw [if_pos (by omega)])
                  | exact tail144 _ (by rw [if_neg (by omega)]; exact hL.2 T0 (by omega))
              · refine x_aload_n 151 0 dX7_byRain_150 rfl rfl (by decide) rfl ?_
                refine x_sipush 154 dX7_byRain_151 rfl (by decide) ?_
                refine x_vp 157 [_] (m_owedOn (show 0 ≤ (168 : Int) ∧ (168 : Int) ≤ 210 by omega) hR3 (rnV_WF hW rn k)) mX7_owedOn kX7_164 dX7_byRain_154 rfl rfl ⟨by decide, rfl⟩ rfl rfl (Nat.le_of_ble_eq_true rfl) (by decide) ?_
                refine x_goto 166 dX7_byRain_157 (by decide) ?_
                first
                  | exact tail144 _ (by rw [if_pos (by omega)])
                  | exact tail144 _ (by rw [if_neg (by omega)]; exact hL.2 T0 (by omega))
            · have ob := owed_bd hwf
              have xo := rnX_or v t rn k
              have zb : 0 ≤ z144 ∧ z144 ≤ 495 := by (rw [hz144]; split <;> omega)
              refine x_i2l 167 dX7_byRain_166 rfl (by omega) ?_
              refine x_lmul 168 dX7_byRain_167 rfl ?_
              refine x_ladd 169 dX7_byRain_168 rfl ?_
              refine x_lstore 171 5 _ dX7_byRain_169 rfl (by decide) rfl rfl ?_
              refine x_iinc 174 _ dX7_byRain_171 rfl (by decide) rfl rfl rfl ?_
              refine x_goto 32 dX7_byRain_174 (by decide) ?_
              rw [hz144, ← hstep]
              exact ih (rn + 1) _ _ _ _ _ (by omega) (by omega) hF3
          · refine x_cut 79 (fun z => z = rbt rn k) (fun tail63 => ?_) (fun z63 hz63 => ?_)
            · refine x_iload 65 9 dX7_byRain_63 rfl (by decide) rfl ?_
              refine x_iload 67 13 dX7_byRain_65 rfl (by decide) rfl ?_
              refine x_ishr 68 ((rn / 2 ^ k : Nat) : Int) dX7_byRain_67 rfl (shr_bit (by omega) (by omega)) ?_
              refine x_iconst 69 dX7_byRain_68 rfl ?_
              refine x_iand 70 ((rn / 2 ^ k % 2 : Nat) : Int) dX7_byRain_69 rfl (and_1 (Nat.lt_of_le_of_lt (Nat.div_le_self _ _) (by omega))) ?_
              refine x_iconst 71 dX7_byRain_70 rfl ?_
              refine x_icmp_ne 78 74 dX7_byRain_71 (by decide) rfl (by omega) (fun h71 => ?_) (fun h71 => ?_)
              · refine x_iconst 79 dX7_byRain_78 rfl ?_
                exact tail63 _ (by unfold rbt; omega)
              · refine x_iconst 75 dX7_byRain_74 rfl ?_
                refine x_goto 79 dX7_byRain_75 (by decide) ?_
                exact tail63 _ (by unfold rbt; omega)
            · subst z63
              refine x_istore 81 14 _ dX7_byRain_79 rfl (by decide) rfl rfl ?_
              refine x_lload 83 10 dX7_byRain_81 rfl (by decide) rfl ?_
              refine x_cutJ 98 (fun z => z = ((if rn / 2 ^ k % 2 = 1 then V else 10 - V : Nat) : Int)) (fun tail83 => ?_) (fun z83 hz83 => ?_)
              · refine x_iload 85 14 dX7_byRain_83 rfl (by decide) rfl ?_
                refine x_if_eq 93 88 dX7_byRain_85 (by decide) rfl (by omega) (fun h85 => ?_) (fun h85 => ?_)
                · refine x_bipush 95 dX7_byRain_93 rfl (by decide) ?_
                  refine x_iload_n 96 1 dX7_byRain_95 rfl rfl (by decide) rfl ?_
                  refine x_isub 97 dX7_byRain_96 rfl ?_
                  refine x_i2l 98 dX7_byRain_97 rfl (by omega) ?_
                  exact tail83 _ (by unfold rbt at *; split <;> omega)
                · refine x_iload_n 89 1 dX7_byRain_88 rfl rfl (by decide) rfl ?_
                  refine x_i2l 90 dX7_byRain_89 rfl (by omega) ?_
                  refine x_goto 98 dX7_byRain_90 (by decide) ?_
                  exact tail83 _ (by unfold rbt at *; split <;> omega)
              · subst z83
                refine x_lmul 99 dX7_byRain_98 rfl ?_
                refine x_lstore 101 10 _ dX7_byRain_99 rfl (by decide) rfl rfl ?_
                refine x_aload_n 102 0 dX7_byRain_101 rfl rfl (by decide) rfl ?_
                refine x_sipush 105 dX7_byRain_102 rfl (by decide) ?_
                refine x_iload 107 14 dX7_byRain_105 rfl (by decide) rfl ?_
                refine x_vv 110 [_, _] (m_week (show 0 ≤ (168 : Int) ∧ (168 : Int) ≤ 210 by omega) hR3 hwf (by omega) _ hrb h19) mX7_weekOn kX7_191 dX7_byRain_107 rfl rfl ⟨by decide, rfl⟩ rfl rfl (Nat.le_of_ble_eq_true rfl) (by decide) (fun M4 q4 => ?_)
                obtain ⟨b1, b2, b3, b4, b5⟩ := q4
                refine x_iload 112 12 dX7_byRain_110 rfl (by decide) rfl ?_
                refine x_cut 131 (fun z => z = ((lzz (wkL (rnV v rn k) (rbt rn k)) : Nat) : Int)) (fun tail112 => ?_) (fun z112 hz112 => ?_)
                · refine x_aload_n 113 0 dX7_byRain_112 rfl rfl (by decide) rfl ?_
                  refine x_getI 116 16 16 rfl dX7_byRain_113 rfl fX7_142 rfl rfl (fun g113 => ?_)
                  rw [b1]
                  refine x_bipush 118 dX7_byRain_116 rfl (by decide) ?_
                  refine x_icmp_ne 125 121 dX7_byRain_118 (by decide) rfl (by omega) (fun h118 => ?_) (fun h118 => ?_)
                  · obtain ⟨W0, hW0⟩ := Int.eq_ofNat_of_zero_le (show 0 ≤ wkL (rnV v rn k) (rbt rn k) by omega)
                    refine x_iconst 126 dX7_byRain_125 rfl ?_
                    refine x_aload_n 127 0 dX7_byRain_126 rfl rfl (by decide) rfl ?_
                    refine x_getI 130 16 16 rfl dX7_byRain_127 rfl fX7_142 rfl rfl (fun g127 => ?_)
                    rw [b1, hW0]
                    refine x_ishl 131 ((2 ^ W0 : Nat) : Int) dX7_byRain_130 rfl (shl1 (by omega)) ?_
                    first
                      | exact tail112 _ (by unfold lzz; rw [if_pos (by omega)]; rfl)
                      | exact tail112 _ (by unfold lzz; rw [if_neg (by omega), hW0, Int.toNat_natCast])
                  · refine x_iconst 122 dX7_byRain_121 rfl ?_
                    refine x_goto 131 dX7_byRain_122 (by decide) ?_
                    first
                      | exact tail112 _ (by unfold lzz; rw [if_pos (by omega)]; rfl)
                      | exact tail112 _ (by unfold lzz; rw [if_neg (by omega), hW0, Int.toNat_natCast])
                · subst z112
                  refine x_ior 132 ((l ||| lzz (wkL (rnV v rn k) (rbt rn k)) : Nat) : Int) dX7_byRain_131 rfl (or_n _ _) ?_
                  refine x_istore 134 12 _ dX7_byRain_132 rfl (by decide) rfl rfl ?_
                  refine x_iinc 137 _ dX7_byRain_134 rfl (by decide) rfl rfl rfl ?_
                  refine x_goto 57 dX7_byRain_137 (by decide) ?_
                  rw [← Int.natCast_mul, ← wgN_s]
                  exact ih2 (k + 1) _ _ _ (by omega) (by omega) (LBI_s hW hL) b4 (hF3.tr b5)
      refine x_iload 34 9 dX7_byRain_32 rfl (by decide) rfl ?_
      refine x_iconst 35 dX7_byRain_34 rfl ?_
      refine x_iload_n 36 3 dX7_byRain_35 rfl rfl (by decide) rfl ?_
      refine x_ishl 37 ((2 ^ N : Nat) : Int) dX7_byRain_36 rfl (shl1 (by omega)) ?_
      refine x_icmp_ge 177 40 dX7_byRain_37 (by decide) rfl (by omega) (fun h37 => ?_) (fun h37 => ?_)
      · have er : rn = 2 ^ N := by omega
        subst er
        refine x_lload 179 5 dX7_byRain_177 rfl (by decide) rfl ?_
        refine x_lload 181 7 dX7_byRain_179 rfl (by decide) rfl ?_
        refine x_iload 183 4 dX7_byRain_181 rfl (by decide) rfl ?_
        refine x_sj 186 [_, _, _] (m_lowest (S (2 ^ N)) (10 ^ N) w hw hl.1 hl.2.1 hl.2.2.1) mX7_lowest kX7_217 dX7_byRain_183 rfl rfl rfl (Nat.le_of_ble_eq_true rfl) (by decide) ?_
        refine x_lret dX7_byRain_186 rfl ⟨rfl, Nat.le_refl _⟩ (ql_i ?_)
        exact ⟨rfl, hF2⟩
      · refine x_lconst 41 dX7_byRain_40 rfl 1 rfl ?_
        refine x_lstore 43 10 _ dX7_byRain_41 rfl (by decide) rfl rfl ?_
        refine x_iconst 44 dX7_byRain_43 rfl ?_
        refine x_istore 46 12 _ dX7_byRain_44 rfl (by decide) rfl rfl ?_
        refine x_aload_n 47 0 dX7_byRain_46 rfl rfl (by decide) rfl ?_
        refine x_iconst 48 dX7_byRain_47 rfl ?_
        refine x_sipush 51 dX7_byRain_48 rfl (by decide) ?_
        refine x_vv 54 [_, _] (m_copies 0 168 (by omega) (by omega) (by omega)) mX7_copies kX7_195 dX7_byRain_51 rfl rfl ⟨by decide, rfl⟩ rfl rfl (Nat.le_of_ble_eq_true rfl) (by decide) (fun Mc qc => ?_)
        have hRc := (hR.far hF2 (by omega)).copy qc
        refine x_iconst 55 dX7_byRain_54 rfl ?_
        refine x_istore 57 13 _ dX7_byRain_55 rfl (by decide) rfl rfl ?_
        exact inner (by omega) (N + 1) 0 0 _ _ (by omega) (by omega) ⟨by omega, fun t _ => by rw [Nat.zero_div]; rfl⟩ hRc (hF2.tr qc.fp)
  have tens : ∀ (m k : Nat), N - k < m → k ≤ N → X g tX7_byRain (kk0 4) 9 [some (rv g 50), some (iv V), some (iv t), some (iv N), some (iv w), some (jv 0), none, some (jv ((10 ^ k : Nat) : Int)), none, some (iv k), none, none, none, none, none] [] (S0, R0, M) (QL (fun r M3 => r = low (S (2 ^ N)) (10 ^ N) w ∧ FP 168 M M3)) := by
    intro m
    induction m with
    | zero => intro k k1 k2; omega
    | succ m ih =>
      intro k k1 k2
      refine x_iload 11 9 dX7_byRain_9 rfl (by decide) rfl ?_
      refine x_iload_n 12 3 dX7_byRain_11 rfl rfl (by decide) rfl ?_
      refine x_icmp_ge 29 15 dX7_byRain_12 (by decide) rfl (by omega) (fun h12 => ?_) (fun h12 => ?_)
      · refine x_iconst 30 dX7_byRain_29 rfl ?_
        refine x_istore 32 9 _ dX7_byRain_30 rfl (by decide) rfl rfl ?_
        have ek : k = N := by omega
        subst ek
        have e0 := outer (2 ^ k + 1) 0 M none none none none (by omega) (by omega) (FP.rf 168 M)
        rw [hS0] at e0
        exact e0
      · refine x_lload 17 7 dX7_byRain_15 rfl (by decide) rfl ?_
        refine x_ldc2 20 10 qX7_209 dX7_byRain_17 rfl ?_
        refine x_lmul 21 dX7_byRain_20 rfl ?_
        refine x_lstore 23 7 _ dX7_byRain_21 rfl (by decide) rfl rfl ?_
        refine x_iinc 26 _ dX7_byRain_23 rfl (by decide) rfl rfl rfl ?_
        refine x_goto 9 dX7_byRain_26 (by decide) ?_
        have e0 := ih (k + 1) (by omega) (by omega)
        rw [Nat.pow_succ, Int.natCast_mul] at e0
        exact e0
  refine x_lconst 1 dX7_byRain_0 rfl 0 rfl ?_
  refine x_lstore 3 5 _ dX7_byRain_1 rfl (by decide) rfl rfl ?_
  refine x_lconst 4 dX7_byRain_3 rfl 1 rfl ?_
  refine x_lstore 6 7 _ dX7_byRain_4 rfl (by decide) rfl rfl ?_
  refine x_iconst 7 dX7_byRain_6 rfl ?_
  refine x_istore 9 9 _ dX7_byRain_7 rfl (by decide) rfl rfl ?_
  have e0 := tens (N + 1) 0 (by omega) (by omega)
  rw [Nat.pow_zero] at e0
  exact e0

set_option maxHeartbeats 4000000 in
theorem r_luck {g : GG} {M : Mem} {s : ST} (hC : Mdl M s) (hO : SOK s) (v t n w : Int) (hv : -2147483648 ≤ v ∧ v ≤ 2147483647) (ht : -2147483648 ≤ t ∧ t ≤ 2147483647) (hn : -2147483648 ≤ n ∧ n ≤ 2147483647) (hw : -2147483648 ≤ w ∧ w ≤ 2147483647) : CL g tX7_luck 5 [rv g 50, iv v, iv t, iv n, iv w] M (PM M (aLuck s v t n w) s) := by
  refine Con.of [some (rv g 50), some (iv v), some (iv t), some (iv n), some (iv w)] (by decide +kernel) rfl (Nat.le_of_ble_eq_true rfl) ?_
  obtain ⟨hV, ⟨hk0, hk1, hi0, hi1⟩, ⟨hT1, hT2⟩, ⟨hS1, hS2⟩, hZ, hN, hF, hKs, hMC⟩ := id hC
  obtain ⟨oV, oW, oI0, oI1, oT, oTb, oS, oSb, oZ⟩ := id hO
  have e1 : M 50 1 = vn (sV s) := hV.2.1
  have e40 : M 51 40 = vf (sV s) := hV.F (by omega)
  have e41 : M 51 41 = vw (sV s) := hV.W (by omega)
  have o1 := oV.1
  have o2 := oV.2.1
  have o3 := oV.2.2.1
  refine x_iload_n 1 1 dX7_luck_0 rfl rfl (by decide) rfl ?_
  refine x_i2l 2 dX7_luck_1 rfl (by omega) ?_
  refine x_lconst 3 dX7_luck_2 rfl 0 rfl ?_
  refine x_ldc2 6 10 qX7_209 dX7_luck_3 rfl ?_
  refine x_sp 9 [_, _, _] (m_in _ _ _ (by omega) (by omega) (by omega)) mX7_in kX7_53 dX7_luck_6 rfl rfl rfl (Nat.le_of_ble_eq_true rfl) (by decide) ?_
  refine x_ifeq_b 55 12 dX7_luck_9 (by decide) rfl (fun h9 => ?_) (fun h9 => ?_)
  · refine x_ldc2 58 (-1) qX7_227 dX7_luck_55 rfl ?_
    refine x_lret dX7_luck_58 rfl ⟨rfl, Nat.le_refl _⟩ (ql_i ?_)
    first
      | (refine PM.scr hC ?_ (SM.of gF (by omega))
         unfold aLuck; rw [if_pos (by omega), Int.toNat_natCast, Int.toNat_natCast])
      | (refine PM.same hC ?_
         unfold aLuck; rw [if_neg (by omega)])
  · refine x_aload_n 13 0 dX7_luck_12 rfl rfl (by decide) rfl ?_
    refine x_iload_n 14 2 dX7_luck_13 rfl rfl (by decide) rfl ?_
    refine x_vp 17 [_] (m_isTown _ t e1 (by omega) (by omega)) mX7_isTown kX7_131 dX7_luck_14 rfl rfl ⟨by decide, rfl⟩ rfl rfl (Nat.le_of_ble_eq_true rfl) (by decide) ?_
    refine x_ifeq_b 55 20 dX7_luck_17 (by decide) rfl (fun h17 => ?_) (fun h17 => ?_)
    · refine x_ldc2 58 (-1) qX7_227 dX7_luck_55 rfl ?_
      refine x_lret dX7_luck_58 rfl ⟨rfl, Nat.le_refl _⟩ (ql_i ?_)
      first
        | (refine PM.scr hC ?_ (SM.of gF (by omega))
           unfold aLuck; rw [if_pos (by omega), Int.toNat_natCast, Int.toNat_natCast])
        | (refine PM.same hC ?_
           unfold aLuck; rw [if_neg (by omega)])
    · refine x_iload_n 21 3 dX7_luck_20 rfl rfl (by decide) rfl ?_
      refine x_i2l 22 dX7_luck_21 rfl (by omega) ?_
      refine x_lconst 23 dX7_luck_22 rfl 0 rfl ?_
      refine x_ldc2 26 8 qX7_221 dX7_luck_23 rfl ?_
      refine x_sp 29 [_, _, _] (m_in _ _ _ (by omega) (by omega) (by omega)) mX7_in kX7_53 dX7_luck_26 rfl rfl rfl (Nat.le_of_ble_eq_true rfl) (by decide) ?_
      refine x_ifeq_b 55 32 dX7_luck_29 (by decide) rfl (fun h29 => ?_) (fun h29 => ?_)
      · refine x_ldc2 58 (-1) qX7_227 dX7_luck_55 rfl ?_
        refine x_lret dX7_luck_58 rfl ⟨rfl, Nat.le_refl _⟩ (ql_i ?_)
        first
          | (refine PM.scr hC ?_ (SM.of gF (by omega))
             unfold aLuck; rw [if_pos (by omega), Int.toNat_natCast, Int.toNat_natCast])
          | (refine PM.same hC ?_
             unfold aLuck; rw [if_neg (by omega)])
      · refine x_iload 34 4 dX7_luck_32 rfl (by decide) rfl ?_
        refine x_i2l 35 dX7_luck_34 rfl (by omega) ?_
        refine x_lconst 36 dX7_luck_35 rfl 0 rfl ?_
        refine x_lconst 37 dX7_luck_36 rfl 1 rfl ?_
        refine x_sp 40 [_, _, _] (m_in _ _ _ (by omega) (by omega) (by omega)) mX7_in kX7_53 dX7_luck_37 rfl rfl rfl (Nat.le_of_ble_eq_true rfl) (by decide) ?_
        refine x_ifeq_b 55 43 dX7_luck_40 (by decide) rfl (fun h40 => ?_) (fun h40 => ?_)
        · refine x_ldc2 58 (-1) qX7_227 dX7_luck_55 rfl ?_
          refine x_lret dX7_luck_58 rfl ⟨rfl, Nat.le_refl _⟩ (ql_i ?_)
          first
            | (refine PM.scr hC ?_ (SM.of gF (by omega))
               unfold aLuck; rw [if_pos (by omega), Int.toNat_natCast, Int.toNat_natCast])
            | (refine PM.same hC ?_
               unfold aLuck; rw [if_neg (by omega)])
        · obtain ⟨N, rfl⟩ := Int.eq_ofNat_of_zero_le (show 0 ≤ n by omega)
          obtain ⟨V, rfl⟩ := Int.eq_ofNat_of_zero_le (show 0 ≤ v by omega)
          have hp8 := p8 (n := N) (by omega)
          have hVb : V ≤ 10 := by omega
          have hle := luS_le (sV s) hVb (show N ≤ 8 by omega) t (2 ^ N)
          have hSs : ∀ rn, rn < 2 ^ N → ((luS (sV s) V t N (rn + 1) : Nat) : Int) = ((luS (sV s) V t N rn : Nat) : Int) + ((wgN V N rn : Nat) : Int) * (if t = -4 then owed (rnV (sV s) rn N) else rnX (sV s) t rn N) := by
            intro rn _
            have hst : luS (sV s) V t N (rn + 1) = luS (sV s) V t N rn + (if rnX (sV s) t rn N = 1 then wgN V N rn else 0) := rfl
            rw [hst, if_neg (show ¬ t = -4 by omega), Int.natCast_add]
            rcases rnX_or (sV s) t rn N with e | e
            · rw [e, if_neg (by omega), Int.mul_zero]; rfl
            · rw [e, if_pos rfl, Int.mul_one]
          refine x_aload_n 44 0 dX7_luck_43 rfl rfl (by decide) rfl ?_
          refine x_iload_n 45 1 dX7_luck_44 rfl rfl (by decide) rfl ?_
          refine x_iload_n 46 2 dX7_luck_45 rfl rfl (by decide) rfl ?_
          refine x_iload_n 47 3 dX7_luck_46 rfl rfl (by decide) rfl ?_
          refine x_iload 49 4 dX7_luck_47 rfl (by decide) rfl ?_
          refine x_vl 52 [_, _, _, _] (m_byRain hV oV oW hKs V N hVb (by omega) t w (by omega) (by omega) (luS (sV s) V t N) rfl (by omega) hSs) mX7_byRain kX7_223 dX7_luck_49 rfl rfl ⟨by decide, rfl⟩ rfl rfl (Nat.le_of_ble_eq_true rfl) (by decide) (fun r2 M2 q2 => ?_)
          obtain ⟨rfl, gF⟩ := q2
          refine x_goto 58 dX7_luck_52 (by decide) ?_
          refine x_lret dX7_luck_58 rfl ⟨rfl, Nat.le_refl _⟩ (ql_i ?_)
          first
            | (refine PM.scr hC ?_ (SM.of gF (by omega))
               unfold aLuck; rw [if_pos (by omega), Int.toNat_natCast, Int.toNat_natCast])
            | (refine PM.same hC ?_
               unfold aLuck; rw [if_neg (by omega)])

set_option maxHeartbeats 4000000 in
theorem r_mean {g : GG} {M : Mem} {s : ST} (hC : Mdl M s) (hO : SOK s) (v n w : Int) (hv : -2147483648 ≤ v ∧ v ≤ 2147483647) (hn : -2147483648 ≤ n ∧ n ≤ 2147483647) (hw : -2147483648 ≤ w ∧ w ≤ 2147483647) : CL g tX7_mean 5 [rv g 50, iv v, iv n, iv w] M (PM M (aMean s v n w) s) := by
  refine Con.of [some (rv g 50), some (iv v), some (iv n), some (iv w)] (by decide +kernel) rfl (Nat.le_of_ble_eq_true rfl) ?_
  obtain ⟨hV, ⟨hk0, hk1, hi0, hi1⟩, ⟨hT1, hT2⟩, ⟨hS1, hS2⟩, hZ, hN, hF, hKs, hMC⟩ := id hC
  obtain ⟨oV, oW, oI0, oI1, oT, oTb, oS, oSb, oZ⟩ := id hO
  have e1 : M 50 1 = vn (sV s) := hV.2.1
  have e40 : M 51 40 = vf (sV s) := hV.F (by omega)
  have e41 : M 51 41 = vw (sV s) := hV.W (by omega)
  have o1 := oV.1
  have o2 := oV.2.1
  have o3 := oV.2.2.1
  refine x_iload_n 1 1 dX7_mean_0 rfl rfl (by decide) rfl ?_
  refine x_i2l 2 dX7_mean_1 rfl (by omega) ?_
  refine x_lconst 3 dX7_mean_2 rfl 0 rfl ?_
  refine x_ldc2 6 10 qX7_209 dX7_mean_3 rfl ?_
  refine x_sp 9 [_, _, _] (m_in _ _ _ (by omega) (by omega) (by omega)) mX7_in kX7_53 dX7_mean_6 rfl rfl rfl (Nat.le_of_ble_eq_true rfl) (by decide) ?_
  refine x_ifeq_b 46 12 dX7_mean_9 (by decide) rfl (fun h9 => ?_) (fun h9 => ?_)
  · refine x_ldc2 49 (-1) qX7_227 dX7_mean_46 rfl ?_
    refine x_lret dX7_mean_49 rfl ⟨rfl, Nat.le_refl _⟩ (ql_i ?_)
    first
      | (refine PM.scr hC ?_ (SM.of gF (by omega))
         unfold aMean; rw [if_pos (by omega), Int.toNat_natCast, Int.toNat_natCast])
      | (refine PM.same hC ?_
         unfold aMean; rw [if_neg (by omega)])
  · refine x_iload_n 13 2 dX7_mean_12 rfl rfl (by decide) rfl ?_
    refine x_i2l 14 dX7_mean_13 rfl (by omega) ?_
    refine x_lconst 15 dX7_mean_14 rfl 0 rfl ?_
    refine x_ldc2 18 8 qX7_221 dX7_mean_15 rfl ?_
    refine x_sp 21 [_, _, _] (m_in _ _ _ (by omega) (by omega) (by omega)) mX7_in kX7_53 dX7_mean_18 rfl rfl rfl (Nat.le_of_ble_eq_true rfl) (by decide) ?_
    refine x_ifeq_b 46 24 dX7_mean_21 (by decide) rfl (fun h21 => ?_) (fun h21 => ?_)
    · refine x_ldc2 49 (-1) qX7_227 dX7_mean_46 rfl ?_
      refine x_lret dX7_mean_49 rfl ⟨rfl, Nat.le_refl _⟩ (ql_i ?_)
      first
        | (refine PM.scr hC ?_ (SM.of gF (by omega))
           unfold aMean; rw [if_pos (by omega), Int.toNat_natCast, Int.toNat_natCast])
        | (refine PM.same hC ?_
           unfold aMean; rw [if_neg (by omega)])
    · refine x_iload_n 25 3 dX7_mean_24 rfl rfl (by decide) rfl ?_
      refine x_i2l 26 dX7_mean_25 rfl (by omega) ?_
      refine x_lconst 27 dX7_mean_26 rfl 0 rfl ?_
      refine x_lconst 28 dX7_mean_27 rfl 1 rfl ?_
      refine x_sp 31 [_, _, _] (m_in _ _ _ (by omega) (by omega) (by omega)) mX7_in kX7_53 dX7_mean_28 rfl rfl rfl (Nat.le_of_ble_eq_true rfl) (by decide) ?_
      refine x_ifeq_b 46 34 dX7_mean_31 (by decide) rfl (fun h31 => ?_) (fun h31 => ?_)
      · refine x_ldc2 49 (-1) qX7_227 dX7_mean_46 rfl ?_
        refine x_lret dX7_mean_49 rfl ⟨rfl, Nat.le_refl _⟩ (ql_i ?_)
        first
          | (refine PM.scr hC ?_ (SM.of gF (by omega))
             unfold aMean; rw [if_pos (by omega), Int.toNat_natCast, Int.toNat_natCast])
          | (refine PM.same hC ?_
             unfold aMean; rw [if_neg (by omega)])
      · obtain ⟨N, rfl⟩ := Int.eq_ofNat_of_zero_le (show 0 ≤ n by omega)
        obtain ⟨V, rfl⟩ := Int.eq_ofNat_of_zero_le (show 0 ≤ v by omega)
        have hp8 := p8 (n := N) (by omega)
        have hVb : V ≤ 10 := by omega
        have hle := meS_le (v := sV s) oV hVb (show N ≤ 8 by omega) (2 ^ N)
        have hSs : ∀ rn, rn < 2 ^ N → ((meS (sV s) V N (rn + 1) : Nat) : Int) = ((meS (sV s) V N rn : Nat) : Int) + ((wgN V N rn : Nat) : Int) * (if (-4 : Int) = -4 then owed (rnV (sV s) rn N) else rnX (sV s) (-4) rn N) := by
          intro rn _
          have hst : meS (sV s) V N (rn + 1) = meS (sV s) V N rn + (owed (rnV (sV s) rn N)).toNat * wgN V N rn := rfl
          have ob := owed_bd (rnV_WF oV rn N)
          rw [hst, if_pos rfl, Int.natCast_add, Int.natCast_mul, Int.toNat_of_nonneg ob.1, Int.mul_comm]
        refine x_aload_n 35 0 dX7_mean_34 rfl rfl (by decide) rfl ?_
        refine x_iload_n 36 1 dX7_mean_35 rfl rfl (by decide) rfl ?_
        refine x_bipush 38 dX7_mean_36 rfl (by decide) ?_
        refine x_iload_n 39 2 dX7_mean_38 rfl rfl (by decide) rfl ?_
        refine x_iload_n 40 3 dX7_mean_39 rfl rfl (by decide) rfl ?_
        refine x_vl 43 [_, _, _, _] (m_byRain hV oV oW hKs V N hVb (by omega) (-4) w (Or.inl rfl) (by omega) (meS (sV s) V N) rfl (by omega) hSs) mX7_byRain kX7_223 dX7_mean_40 rfl rfl ⟨by decide, rfl⟩ rfl rfl (Nat.le_of_ble_eq_true rfl) (by decide) (fun r2 M2 q2 => ?_)
        obtain ⟨rfl, gF⟩ := q2
        refine x_goto 49 dX7_mean_43 (by decide) ?_
        refine x_lret dX7_mean_49 rfl ⟨rfl, Nat.le_refl _⟩ (ql_i ?_)
        first
          | (refine PM.scr hC ?_ (SM.of gF (by omega))
             unfold aMean; rw [if_pos (by omega), Int.toNat_natCast, Int.toNat_natCast])
          | (refine PM.same hC ?_
             unfold aMean; rw [if_neg (by omega)])
