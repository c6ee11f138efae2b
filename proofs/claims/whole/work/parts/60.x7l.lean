/-! ===== the reference reads a text ===== -/
def TQ (M : Mem) (n : Int) (b : Int → Int) : Prop := M 50 6 = n ∧ (0 ≤ n ∧ n ≤ 160) ∧ (∀ i, 0 ≤ i → i < n → M 53 i = b i ∧ 0 ≤ b i ∧ b i ≤ 127) ∧ MCon M
def FS (M M2 : Mem) : Prop := (∀ a, a ≠ 50 → M2 a = M a) ∧ (∀ k, (k < 8 ∨ 13 < k) → M2 50 k = M 50 k)
theorem FS.rf (M : Mem) : FS M M := ⟨fun _ _ => rfl, fun _ _ => rfl⟩
theorem FS.tr {M M2 M3 : Mem} (h : FS M M2) (h2 : FS M2 M3) : FS M M3 := ⟨fun a x => (h2.1 a x).trans (h.1 a x), fun k x => (h2.2 k x).trans (h.2 k x)⟩
theorem FS.up {M M2 : Mem} (h : FS M M2) (x y : Int) (hx : 8 ≤ x ∧ x ≤ 13) : FS M (up2 M2 50 x y) :=
  ⟨fun a ha => by rw [up2_o M2 x y ha]; exact h.1 a ha, fun k hk => by rw [up2_k M2 50 y (show k ≠ x by omega)]; exact h.2 k hk⟩
theorem TQ.keep {M M2 : Mem} {n : Int} {b : Int → Int} (h : TQ M n b) (e6 : M2 50 6 = M 50 6) (e : ∀ a, a = 53 ∨ a = 54 ∨ a = 55 → M2 a = M a) : TQ M2 n b :=
  ⟨e6.trans h.1, h.2.1, by rw [e 53 (by omega)]; exact h.2.2.1, h.2.2.2.keep (e 54 (by omega)) (e 55 (by omega))⟩
theorem TQ.fs {M M2 : Mem} {n : Int} {b : Int → Int} (h : TQ M n b) (e : FS M M2) : TQ M2 n b := h.keep (e.2 6 (by omega)) (fun a ha => e.1 a (by omega))
def btA (b : Int → Int) (n q : Int) : Int := if q < n then b q else -4
theorem btA_lt {b : Int → Int} {n q : Int} : (97 ≤ btA b n q ∧ btA b n q ≤ 122) ↔ (q < n ∧ isLt (b q) = true) := by
  unfold btA isLt
  rw [decide_eq_true_eq]
  split <;> omega
theorem btA_fg {b : Int → Int} {n q : Int} : (48 ≤ btA b n q ∧ btA b n q ≤ 57) ↔ (q < n ∧ isFg (b q) = true) := by
  unfold btA isFg
  rw [decide_eq_true_eq]
  split <;> omega
theorem btA_bk {b : Int → Int} {n q : Int} : btA b n q = 32 ↔ (q < n ∧ isBk (b q) = true) := by
  unfold btA isBk
  rw [decide_eq_true_eq]
  split <;> omega
theorem btA_in {b : Int → Int} {n q : Int} (h : q < n) : btA b n q = b q := if_pos h
theorem btA_out {b : Int → Int} {n q : Int} (h : n ≤ q) : btA b n q = -4 := if_neg (by omega)
theorem btA_rng {M : Mem} {b : Int → Int} {n q : Int} (h : TQ M n b) (hq : 0 ≤ q) : -4 ≤ btA b n q ∧ btA b n q ≤ 127 := by
  unfold btA
  split
  · have := h.2.2.1 q hq (by assumption)
    omega
  · omega
theorem numP_s {b : Int → Int} {s q : Int} (h : s ≤ q) : numP b s (q + 1) = if q - s < 2 then 10 * numP b s q + b q - 48 else numP b s q := by
  unfold numP
  by_cases e0 : q = s
  · subst e0
    rw [if_neg (by omega), if_pos rfl, if_pos (by omega), if_pos rfl]; omega
  · by_cases e1 : q = s + 1
    · subst e1
      rw [if_neg (by omega), if_neg (by omega), if_pos (by omega), if_neg (by omega), if_pos rfl]; omega
    · rw [if_neg (by omega), if_neg (by omega), if_neg (by omega), if_neg (by omega), if_neg (by omega)]
theorem numP_b {M : Mem} {b : Int → Int} {n s q : Int} (h : TQ M n b) (hs : 0 ≤ s) (hq : s ≤ q) (hn : q ≤ n) : -1000 ≤ numP b s q ∧ numP b s q ≤ 2000 := by
  unfold numP
  split
  · omega
  · split
    · have := h.2.2.1 s hs (by omega)
      omega
    · have h1 := h.2.2.1 s hs (by omega)
      have h2 := h.2.2.1 (s + 1) (by omega) (by omega)
      omega
/-- a token has been read at p -/
def TKS (b : Int → Int) (n p : Int) (M : Mem) : Prop := M 50 11 = tkS b n p ∧ M 50 12 = tkK b n p ∧ M 50 10 = tkE b n p ∧ (tkBb b n p = true → M 50 8 = 1 ∧ M 50 9 = tkS b n p) ∧ (tkBb b n p = false → M 50 8 = 0 ∧ M 50 13 = tkV b n p)
theorem TKS.keep {b : Int → Int} {n p : Int} {M M2 : Mem} (h : TKS b n p M) (e : ∀ k, 8 ≤ k → k ≤ 13 → M2 50 k = M 50 k) : TKS b n p M2 := by
  unfold TKS
  rw [e 11 (by omega) (by omega), e 12 (by omega) (by omega), e 10 (by omega) (by omega), e 8 (by omega) (by omega), e 9 (by omega) (by omega), e 13 (by omega) (by omega)]
  exact h

set_option maxHeartbeats 4000000 in
theorem m_byteAt {g : GG} {M : Mem} {n : Int} {b : Int → Int} (hT : TQ M n b) (q : Int) (hq : 0 ≤ q ∧ q ≤ 1000) : CP g tX7_byteAt 0 [rv g 50, iv q] M (btA b n q) := by
  refine Con.of [some (rv g 50), some (iv q)] (by decide +kernel) rfl (Nat.le_of_ble_eq_true rfl) ?_
  obtain ⟨t1, t2, t3, -⟩ := id hT
  refine x_iload_n 1 1 dX7_byteAt_0 rfl rfl (by decide) rfl ?_
  refine x_aload_n 2 0 dX7_byteAt_1 rfl rfl (by decide) rfl ?_
  refine x_getI 5 6 6 rfl dX7_byteAt_2 rfl fX7_57 rfl rfl (fun g2 => ?_)
  rw [t1]
  refine x_icmp_ge 17 8 dX7_byteAt_5 (by decide) rfl (by omega) (fun h5 => ?_) (fun h5 => ?_)
  · refine x_bipush 19 dX7_byteAt_17 rfl (by decide) ?_
    refine x_iret dX7_byteAt_19 rfl ⟨rfl, Nat.le_refl _⟩ (qp_i ?_ rfl)
    first
      | (rw [btA_in (by omega)]; exact (t3 q (by omega) (by omega)).1)
      | (rw [btA_out (by omega)])
  · refine x_aload_n 9 0 dX7_byteAt_8 rfl rfl (by decide) rfl ?_
    refine x_getR 12 5 53 dX7_byteAt_9 rfl fX7_16 rfl rfl rfl ?_
    refine x_iload_n 13 1 dX7_byteAt_12 rfl rfl (by decide) rfl ?_
    refine x_iaload 14 dX7_byteAt_13 rfl rfl (by omega) (fun g13 => ?_)
    refine x_goto 19 dX7_byteAt_14 (by decide) ?_
    refine x_iret dX7_byteAt_19 rfl ⟨rfl, Nat.le_refl _⟩ (qp_i ?_ rfl)
    first
      | (rw [btA_in (by omega)]; exact (t3 q (by omega) (by omega)).1)
      | (rw [btA_out (by omega)])

set_option maxHeartbeats 4000000 in
theorem m_fails {g : GG} {M : Mem} (c : Int) (hc : -2147483648 ≤ c ∧ c ≤ 2147483647) : CV g tX7_fails 0 [rv g 50, iv c] M (fun M2 => M2 = if M 50 8 = 0 then up2 (up2 M 50 8 c) 50 9 (M 50 11) else M) := by
  refine Con.of [some (rv g 50), some (iv c)] (by decide +kernel) rfl (Nat.le_of_ble_eq_true rfl) ?_
  refine x_rng (fun hrg => ?_)
  refine x_aload_n 1 0 dX7_fails_0 rfl rfl (by decide) rfl ?_
  refine x_getI 4 8 8 rfl dX7_fails_1 rfl fX7_60 rfl rfl (fun g1 => ?_)
  refine x_if_ne 20 7 dX7_fails_4 (by decide) rfl (by omega) (fun h4 => ?_) (fun h4 => ?_)
  · refine x_vret dX7_fails_20 rfl ⟨rfl, Nat.le_refl _⟩ (qv_i ?_)
    first | rw [if_pos (by omega)] | rw [if_neg (by omega)]
  · refine x_aload_n 8 0 dX7_fails_7 rfl rfl (by decide) rfl ?_
    refine x_iload_n 9 1 dX7_fails_8 rfl rfl (by decide) rfl ?_
    refine x_putI 12 8 8 rfl dX7_fails_9 rfl fX7_60 rfl rfl rfl (by omega) ?_
    refine x_aload_n 13 0 dX7_fails_12 rfl rfl (by decide) rfl ?_
    refine x_aload_n 14 0 dX7_fails_13 rfl rfl (by decide) rfl ?_
    refine x_getI 17 11 11 rfl dX7_fails_14 rfl fX7_63 rfl rfl (fun g14 => ?_)
    rw [up2_k _ _ _ (by omega)]
    refine x_putI 20 9 9 rfl dX7_fails_17 rfl fX7_66 rfl rfl rfl (by have := hrg 50 11; omega) ?_
    refine x_vret dX7_fails_20 rfl ⟨rfl, Nat.le_refl _⟩ (qv_i ?_)
    first | rw [if_pos (by omega)] | rw [if_neg (by omega)]

set_option maxHeartbeats 4000000 in
theorem m_stepB {g : GG} {M : Mem} (h8 : 0 < M 50 8) : CV g tX7_step 1 [rv g 50] M (fun M2 => M2 = M) := by
  refine Con.of [some (rv g 50), none] (by decide +kernel) rfl (Nat.le_of_ble_eq_true rfl) ?_
  refine x_aload_n 1 0 dX7_step_0 rfl rfl (by decide) rfl ?_
  refine x_getI 4 8 8 rfl dX7_step_1 rfl fX7_60 rfl rfl (fun g1 => ?_)
  refine x_if_le 8 7 dX7_step_4 (by decide) rfl (by omega) (fun h4 => ?_) (fun h4 => ?_)
  · exfalso; omega
  · refine x_vret dX7_step_7 rfl ⟨rfl, Nat.le_refl _⟩ (qv_i ?_)
    rfl

set_option maxHeartbeats 4000000 in
theorem m_step {g : GG} {M : Mem} {n : Int} {b : Int → Int} (hT : TQ M n b) (p : Int) (h10 : M 50 10 = p) (h8 : M 50 8 = 0) (hpn : 0 ≤ p ∧ p ≤ n) : CV g tX7_step 1 [rv g 50] M (fun M3 => TKS b n p M3 ∧ FS M M3) := by
  refine Con.of [some (rv g 50), none] (by decide +kernel) rfl (Nat.le_of_ble_eq_true rfl) ?_
  have n1 := hT.2.1
  have hSl := tkS_le (b := b) hpn.2
  have trm := hT.2.2.1
  have figs : tkS b n p < n → ¬ isLt (b (tkS b n p)) = true → isFg (b (tkS b n p)) = true → ∀ (m : Nat) (q : Int) (M4 : Mem) (j1 : Option Value), n - q < m → tkS b n p ≤ q → q ≤ n → scan isFg b n q = scan isFg b n (tkS b n p) → FS M M4 → M4 50 10 = q → M4 50 11 = tkS b n p → M4 50 8 = 0 → M4 50 13 = numP b (tkS b n p) q → X g tX7_step (kk0 1) 140 [some (rv g 50), j1] [] (S0, R0, M4) (QV (fun M3 => TKS b n p M3 ∧ FS M M3)) := by
    intro hn hl hf m
    obtain ⟨c1, c2, c3, c4⟩ := tk_num hn hl hf
    induction m with
    | zero => intro q M4 j1 k1 k2 k3; omega
    | succ m ih =>
      intro q M4 j1 k1 k2 k3 hsc hF4 u10 u11 u8 u13
      have hT4 := hT.fs hF4
      have br := btA_rng hT (show 0 ≤ q by omega)
      have nb := numP_b hT (by omega) k2 k3
      refine x_aload_n 141 0 dX7_step_140 rfl rfl (by decide) rfl ?_
      refine x_aload_n 142 0 dX7_step_141 rfl rfl (by decide) rfl ?_
      refine x_getI 145 10 10 rfl dX7_step_142 rfl fX7_72 rfl rfl (fun g142 => ?_)
      rw [u10]
      refine x_vp 148 [_] (m_byteAt hT4 q (by omega)) mX7_byteAt kX7_75 dX7_step_145 rfl rfl ⟨by decide, rfl⟩ rfl rfl (Nat.le_of_ble_eq_true rfl) (by decide) ?_
      refine x_i2l 149 dX7_step_148 rfl (by omega) ?_
      refine x_ldc2 152 48 qX7_86 dX7_step_149 rfl ?_
      refine x_ldc2 155 57 qX7_88 dX7_step_152 rfl ?_
      refine x_sp 158 [_, _, _] (m_in _ _ _ (by omega) (by omega) (by omega)) mX7_in kX7_53 dX7_step_155 rfl rfl rfl (Nat.le_of_ble_eq_true rfl) (by decide) ?_
      refine x_ifeq_b 217 161 dX7_step_158 (by decide) rfl (fun h158 => ?_) (fun h158 => ?_)
      · have hqe : scan isFg b n q = q := scan_no (fun z => by have := btA_fg.mpr z; contradiction)
        have hqe2 : q = scan isFg b n (tkS b n p) := hqe.symm.trans hsc
        refine x_aload_n 218 0 dX7_step_217 rfl rfl (by decide) rfl ?_
        refine x_iconst 219 dX7_step_218 rfl ?_
        refine x_putI 222 12 12 rfl dX7_step_219 rfl fX7_69 rfl rfl rfl (by omega) ?_
        refine x_mem (fun M5 => FS M M5 ∧ M5 50 10 = q ∧ M5 50 11 = tkS b n p ∧ M5 50 8 = 0 ∧ M5 50 13 = numP b (tkS b n p) q ∧ M5 50 12 = 2) ⟨hF4.up _ _ (by omega), (up2_k _ _ _ (by omega)).trans u10, (up2_k _ _ _ (by omega)).trans u11, (up2_k _ _ _ (by omega)).trans u8, (up2_k _ _ _ (by omega)).trans u13, up2_s _ _ _ _⟩ (fun M5 hM5 => ?_)
        obtain ⟨hF5, v10, v11, v8, v13, v12⟩ := hM5
        refine x_aload_n 223 0 dX7_step_222 rfl rfl (by decide) rfl ?_
        refine x_getI 226 10 10 rfl dX7_step_223 rfl fX7_72 rfl rfl (fun g223 => ?_)
        rw [v10]
        refine x_aload_n 227 0 dX7_step_226 rfl rfl (by decide) rfl ?_
        refine x_getI 230 11 11 rfl dX7_step_227 rfl fX7_63 rfl rfl (fun g227 => ?_)
        rw [v11]
        refine x_isub 231 dX7_step_230 rfl ?_
        refine x_iconst 232 dX7_step_231 rfl ?_
        refine x_icmp_le 269 235 dX7_step_232 (by decide) rfl (by omega) (fun h232 => ?_) (fun h232 => ?_)
        · refine x_vret dX7_step_269 rfl ⟨rfl, Nat.le_refl _⟩ (qv_i ?_)
          first
            | (refine ⟨⟨?_, ?_, ?_, fun _ => ⟨?_, ?_⟩, fun z => ?_⟩, (hF5.up _ _ (by omega)).up _ _ (by omega)⟩
               · rw [up2_k _ _ _ (by omega), up2_k _ _ _ (by omega)]; exact v11
               · rw [up2_k _ _ _ (by omega), up2_k _ _ _ (by omega), c1]; exact v12
               · rw [up2_k _ _ _ (by omega), up2_k _ _ _ (by omega), c2]; exact v10.trans hqe2
               · rw [up2_k _ _ _ (by omega), up2_s]
               · rw [up2_s]; exact v11
               · rw [c4, ← hqe2, decide_eq_false_iff_not] at z; omega)
            | (refine ⟨⟨v11, v12.trans c1.symm, (v10.trans hqe2).trans c2.symm, fun z => ?_, fun _ => ⟨v8, ?_⟩⟩, hF5⟩
               · rw [c4, ← hqe2, decide_eq_true_eq] at z; omega
               · rw [c3, ← hqe2]; exact v13)
        · refine x_aload_n 236 0 dX7_step_235 rfl rfl (by decide) rfl ?_
          refine x_iconst 237 dX7_step_236 rfl ?_
          refine x_vv 240 [_] (m_fails 1 (by omega)) mX7_fails kX7_90 dX7_step_237 rfl rfl ⟨by decide, rfl⟩ rfl rfl (Nat.le_of_ble_eq_true rfl) (by decide) (fun M6 q6 => ?_)
          rw [if_pos v8] at q6
          subst q6
          refine x_goto 269 dX7_step_240 (by decide) ?_
          refine x_vret dX7_step_269 rfl ⟨rfl, Nat.le_refl _⟩ (qv_i ?_)
          first
            | (refine ⟨⟨?_, ?_, ?_, fun _ => ⟨?_, ?_⟩, fun z => ?_⟩, (hF5.up _ _ (by omega)).up _ _ (by omega)⟩
               · rw [up2_k _ _ _ (by omega), up2_k _ _ _ (by omega)]; exact v11
               · rw [up2_k _ _ _ (by omega), up2_k _ _ _ (by omega), c1]; exact v12
               · rw [up2_k _ _ _ (by omega), up2_k _ _ _ (by omega), c2]; exact v10.trans hqe2
               · rw [up2_k _ _ _ (by omega), up2_s]
               · rw [up2_s]; exact v11
               · rw [c4, ← hqe2, decide_eq_false_iff_not] at z; omega)
            | (refine ⟨⟨v11, v12.trans c1.symm, (v10.trans hqe2).trans c2.symm, fun z => ?_, fun _ => ⟨v8, ?_⟩⟩, hF5⟩
               · rw [c4, ← hqe2, decide_eq_true_eq] at z; omega
               · rw [c3, ← hqe2]; exact v13)
      · obtain ⟨hq1, hq2⟩ := btA_fg.mp (by assumption)
        have nb2 := numP_b hT (show 0 ≤ tkS b n p by omega) (show tkS b n p ≤ q + 1 by omega) (show q + 1 ≤ n by omega)
        have ns := numP_s (b := b) k2
        refine x_aload_n 162 0 dX7_step_161 rfl rfl (by decide) rfl ?_
        refine x_cut 201 (fun z => z = numP b (tkS b n p) (q + 1)) (fun tail162 => ?_) (fun z162 hz162 => ?_)
        · refine x_aload_n 163 0 dX7_step_162 rfl rfl (by decide) rfl ?_
          refine x_getI 166 10 10 rfl dX7_step_163 rfl fX7_72 rfl rfl (fun g163 => ?_)
          rw [u10]
          refine x_aload_n 167 0 dX7_step_166 rfl rfl (by decide) rfl ?_
          refine x_getI 170 11 11 rfl dX7_step_167 rfl fX7_63 rfl rfl (fun g167 => ?_)
          rw [u11]
          refine x_isub 171 dX7_step_170 rfl ?_
          refine x_iconst 172 dX7_step_171 rfl ?_
          refine x_icmp_ge 197 175 dX7_step_172 (by decide) rfl (by omega) (fun h172 => ?_) (fun h172 => ?_)
          · refine x_aload_n 198 0 dX7_step_197 rfl rfl (by decide) rfl ?_
            refine x_getI 201 13 13 rfl dX7_step_198 rfl fX7_79 rfl rfl (fun g198 => ?_)
            exact tail162 _ (by rw [ns]; split <;> omega)
          · refine x_bipush 177 dX7_step_175 rfl (by decide) ?_
            refine x_aload_n 178 0 dX7_step_177 rfl rfl (by decide) rfl ?_
            refine x_getI 181 13 13 rfl dX7_step_178 rfl fX7_79 rfl rfl (fun g178 => ?_)
            rw [u13]
            refine x_imul 182 dX7_step_181 rfl ?_
            refine x_aload_n 183 0 dX7_step_182 rfl rfl (by decide) rfl ?_
            refine x_aload_n 184 0 dX7_step_183 rfl rfl (by decide) rfl ?_
            refine x_getI 187 10 10 rfl dX7_step_184 rfl fX7_72 rfl rfl (fun g184 => ?_)
            rw [u10]
            refine x_vp 190 [_] (m_byteAt hT4 q (by omega)) mX7_byteAt kX7_75 dX7_step_187 rfl rfl ⟨by decide, rfl⟩ rfl rfl (Nat.le_of_ble_eq_true rfl) (by decide) ?_
            rw [btA_in hq1]
            refine x_iadd 191 dX7_step_190 rfl ?_
            refine x_bipush 193 dX7_step_191 rfl (by decide) ?_
            refine x_isub 194 dX7_step_193 rfl ?_
            refine x_goto 201 dX7_step_194 (by decide) ?_
            exact tail162 _ (by rw [ns]; split <;> omega)
        · rw [hz162]
          refine x_putI 204 13 13 rfl dX7_step_201 rfl fX7_79 rfl rfl rfl (by omega) ?_
          refine x_mem (fun M5 => FS M M5 ∧ M5 50 10 = q ∧ M5 50 11 = tkS b n p ∧ M5 50 8 = 0 ∧ M5 50 13 = numP b (tkS b n p) (q + 1)) ⟨hF4.up _ _ (by omega), (up2_k _ _ _ (by omega)).trans u10, (up2_k _ _ _ (by omega)).trans u11, (up2_k _ _ _ (by omega)).trans u8, up2_s _ _ _ _⟩ (fun M5 hM5 => ?_)
          obtain ⟨hF5, v10, v11, v8, v13⟩ := hM5
          refine x_aload_n 205 0 dX7_step_204 rfl rfl (by decide) rfl ?_
          refine x_dup 206 dX7_step_205 rfl rfl ?_
          refine x_getI 209 10 10 rfl dX7_step_206 rfl fX7_72 rfl rfl (fun g206 => ?_)
          rw [v10]
          refine x_iconst 210 dX7_step_209 rfl ?_
          refine x_iadd 211 dX7_step_210 rfl ?_
          refine x_putI 214 10 10 rfl dX7_step_211 rfl fX7_72 rfl rfl rfl (by omega) ?_
          refine x_goto 140 dX7_step_214 (by decide) ?_
          exact ih (q + 1) _ _ (by omega) (by omega) (by omega) ((scan_go hq1 hq2).symm.trans hsc) (hF5.up _ _ (by omega)) (up2_s _ _ _ _) ((up2_k _ _ _ (by omega)).trans v11) ((up2_k _ _ _ (by omega)).trans v8) ((up2_k _ _ _ (by omega)).trans v13)
  have lets : tkS b n p < n → isLt (b (tkS b n p)) = true → ∀ (m : Nat) (q : Int) (M4 : Mem) (j1 : Option Value), n - q < m → tkS b n p ≤ q → q ≤ n → scan isLt b n q = scan isLt b n (tkS b n p) → FS M M4 → M4 50 10 = q → M4 50 11 = tkS b n p → M4 50 8 = 0 → M4 50 13 = 0 → X g tX7_step (kk0 1) 84 [some (rv g 50), j1] [] (S0, R0, M4) (QV (fun M3 => TKS b n p M3 ∧ FS M M3)) := by
    intro hn hl m
    obtain ⟨c1, c2, c4⟩ := tk_name hn hl
    induction m with
    | zero => intro q M4 j1 k1 k2 k3; omega
    | succ m ih =>
      intro q M4 j1 k1 k2 k3 hsc hF4 u10 u11 u8 u13
      have hT4 := hT.fs hF4
      have br := btA_rng hT (show 0 ≤ q by omega)
      refine x_aload_n 85 0 dX7_step_84 rfl rfl (by decide) rfl ?_
      refine x_aload_n 86 0 dX7_step_85 rfl rfl (by decide) rfl ?_
      refine x_getI 89 10 10 rfl dX7_step_86 rfl fX7_72 rfl rfl (fun g86 => ?_)
      rw [u10]
      refine x_vp 92 [_] (m_byteAt hT4 q (by omega)) mX7_byteAt kX7_75 dX7_step_89 rfl rfl ⟨by decide, rfl⟩ rfl rfl (Nat.le_of_ble_eq_true rfl) (by decide) ?_
      refine x_i2l 93 dX7_step_92 rfl (by omega) ?_
      refine x_ldc2 96 97 qX7_82 dX7_step_93 rfl ?_
      refine x_ldc2 99 122 qX7_84 dX7_step_96 rfl ?_
      refine x_sp 102 [_, _, _] (m_in _ _ _ (by omega) (by omega) (by omega)) mX7_in kX7_53 dX7_step_99 rfl rfl rfl (Nat.le_of_ble_eq_true rfl) (by decide) ?_
      refine x_ifeq_b 118 105 dX7_step_102 (by decide) rfl (fun h102 => ?_) (fun h102 => ?_)
      · have hqe : scan isLt b n q = q := scan_no (fun z => by have := btA_lt.mpr z; contradiction)
        have hqe2 : q = scan isLt b n (tkS b n p) := hqe.symm.trans hsc
        refine x_aload_n 119 0 dX7_step_118 rfl rfl (by decide) rfl ?_
        refine x_iconst 120 dX7_step_119 rfl ?_
        refine x_putI 123 12 12 rfl dX7_step_120 rfl fX7_69 rfl rfl rfl (by omega) ?_
        refine x_goto 269 dX7_step_123 (by decide) ?_
        refine x_vret dX7_step_269 rfl ⟨rfl, Nat.le_refl _⟩ (qv_i ?_)
        refine ⟨⟨?_, ?_, ?_, fun z => ?_, fun _ => ⟨?_, ?_⟩⟩, hF4.up _ _ (by omega)⟩
        · rw [up2_k _ _ _ (by omega)]; exact u11
        · rw [up2_s, c1]
        · rw [up2_k _ _ _ (by omega), c2]; exact u10.trans hqe2
        · rw [c4] at z; cases z
        · rw [up2_k _ _ _ (by omega)]; exact u8
        · rw [up2_k _ _ _ (by omega)]; unfold tkV; rw [if_neg (by omega)]; exact u13
      · obtain ⟨hq1, hq2⟩ := btA_lt.mp (by assumption)
        refine x_aload_n 106 0 dX7_step_105 rfl rfl (by decide) rfl ?_
        refine x_dup 107 dX7_step_106 rfl rfl ?_
        refine x_getI 110 10 10 rfl dX7_step_107 rfl fX7_72 rfl rfl (fun g107 => ?_)
        rw [u10]
        refine x_iconst 111 dX7_step_110 rfl ?_
        refine x_iadd 112 dX7_step_111 rfl ?_
        refine x_putI 115 10 10 rfl dX7_step_112 rfl fX7_72 rfl rfl rfl (by omega) ?_
        refine x_goto 84 dX7_step_115 (by decide) ?_
        exact ih (q + 1) _ _ (by omega) (by omega) (by omega) ((scan_go hq1 hq2).symm.trans hsc) (hF4.up _ _ (by omega)) (up2_s _ _ _ _) ((up2_k _ _ _ (by omega)).trans u11) ((up2_k _ _ _ (by omega)).trans u8) ((up2_k _ _ _ (by omega)).trans u13)
  have tail56 : ∀ (M3 : Mem), FS M M3 → M3 50 10 = tkS b n p → M3 50 11 = tkS b n p → M3 50 8 = 0 → M3 50 13 = 0 → X g tX7_step (kk0 1) 56 [some (rv g 50), some (iv (btA b n (tkS b n p)))] [] (S0, R0, M3) (QV (fun M3 => TKS b n p M3 ∧ FS M M3)) := by
    intro M3 hF3 u10 u11 u8 u13
    have br := btA_rng hT (show 0 ≤ tkS b n p by omega)
    by_cases hn : tkS b n p < n
    · have hbi := btA_in (b := b) hn
      have hbr := hT.2.2.1 (tkS b n p) (by omega) hn
      refine x_iload_n 57 1 dX7_step_56 rfl rfl (by decide) rfl ?_
      refine x_bipush 59 dX7_step_57 rfl (by decide) ?_
      refine x_icmp_ne 70 62 dX7_step_59 (by decide) rfl (by omega) (fun h59 => ?_) (fun h59 => ?_)
      · refine x_iload_n 71 1 dX7_step_70 rfl rfl (by decide) rfl ?_
        refine x_i2l 72 dX7_step_71 rfl (by omega) ?_
        refine x_ldc2 75 97 qX7_82 dX7_step_72 rfl ?_
        refine x_ldc2 78 122 qX7_84 dX7_step_75 rfl ?_
        refine x_sp 81 [_, _, _] (m_in _ _ _ (by omega) (by omega) (by omega)) mX7_in kX7_53 dX7_step_78 rfl rfl rfl (Nat.le_of_ble_eq_true rfl) (by decide) ?_
        refine x_ifeq_b 126 84 dX7_step_81 (by decide) rfl (fun h81 => ?_) (fun h81 => ?_)
        · refine x_iload_n 127 1 dX7_step_126 rfl rfl (by decide) rfl ?_
          refine x_i2l 128 dX7_step_127 rfl (by omega) ?_
          refine x_ldc2 131 48 qX7_86 dX7_step_128 rfl ?_
          refine x_ldc2 134 57 qX7_88 dX7_step_131 rfl ?_
          refine x_sp 137 [_, _, _] (m_in _ _ _ (by omega) (by omega) (by omega)) mX7_in kX7_53 dX7_step_134 rfl rfl rfl (Nat.le_of_ble_eq_true rfl) (by decide) ?_
          refine x_ifeq_b 243 140 dX7_step_137 (by decide) rfl (fun h137 => ?_) (fun h137 => ?_)
          · have hnl : ¬ isLt (b (tkS b n p)) = true := fun z => by have := btA_lt.mpr ⟨hn, z⟩; contradiction
            have hnf : ¬ isFg (b (tkS b n p)) = true := fun z => by have := btA_fg.mpr ⟨hn, z⟩; contradiction
            obtain ⟨c1, c2, c4⟩ := tk_oth hn hnl hnf
            refine x_aload_n 244 0 dX7_step_243 rfl rfl (by decide) rfl ?_
            refine x_iconst 245 dX7_step_244 rfl ?_
            refine x_putI 248 12 12 rfl dX7_step_245 rfl fX7_69 rfl rfl rfl (by omega) ?_
            refine x_aload_n 249 0 dX7_step_248 rfl rfl (by decide) rfl ?_
            refine x_dup 250 dX7_step_249 rfl rfl ?_
            refine x_getI 253 10 10 rfl dX7_step_250 rfl fX7_72 rfl rfl (fun g250 => ?_)
            rw [up2_k _ _ _ (by omega), u10]
            refine x_iconst 254 dX7_step_253 rfl ?_
            refine x_iadd 255 dX7_step_254 rfl ?_
            refine x_putI 258 10 10 rfl dX7_step_255 rfl fX7_72 rfl rfl rfl (by omega) ?_
            refine x_iload_n 259 1 dX7_step_258 rfl rfl (by decide) rfl ?_
            refine x_bipush 261 dX7_step_259 rfl (by decide) ?_
            refine x_icmp_eq 269 264 dX7_step_261 (by decide) rfl (by omega) (fun h261 => ?_) (fun h261 => ?_)
            · refine x_vret dX7_step_269 rfl ⟨rfl, Nat.le_refl _⟩ (qv_i ?_)
              first
                | (have h59 : btA b n (tkS b n p) = 59 := by assumption
                   rw [hbi] at h59
                   refine ⟨⟨?_, ?_, ?_, fun z => ?_, fun _ => ⟨?_, ?_⟩⟩, (hF3.up _ _ (by omega)).up _ _ (by omega)⟩
                   · rw [up2_k _ _ _ (by omega), up2_k _ _ _ (by omega)]; exact u11
                   · rw [up2_k _ _ _ (by omega), up2_s, c1]
                   · rw [up2_s, c2]
                   · rw [c4, decide_eq_true_eq] at z; exact absurd h59 z
                   · rw [up2_k _ _ _ (by omega), up2_k _ _ _ (by omega)]; exact u8
                   · rw [up2_k _ _ _ (by omega), up2_k _ _ _ (by omega)]; unfold tkV; rw [if_neg (by omega)]; exact u13)
                | (have h59 : ¬ btA b n (tkS b n p) = 59 := by assumption
                   rw [hbi] at h59
                   refine ⟨⟨?_, ?_, ?_, fun _ => ⟨?_, ?_⟩, fun z => ?_⟩, (((hF3.up _ _ (by omega)).up _ _ (by omega)).up _ _ (by omega)).up _ _ (by omega)⟩
                   · rw [up2_k _ _ _ (by omega), up2_k _ _ _ (by omega), up2_k _ _ _ (by omega), up2_k _ _ _ (by omega)]; exact u11
                   · rw [up2_k _ _ _ (by omega), up2_k _ _ _ (by omega), up2_k _ _ _ (by omega), up2_s, c1]
                   · rw [up2_k _ _ _ (by omega), up2_k _ _ _ (by omega), up2_s, c2]
                   · rw [up2_k _ _ _ (by omega), up2_s]
                   · rw [up2_s, up2_k _ _ _ (by omega), up2_k _ _ _ (by omega)]; exact u11
                   · rw [c4, decide_eq_false_iff_not] at z; exact absurd h59 z)
            · refine x_aload_n 265 0 dX7_step_264 rfl rfl (by decide) rfl ?_
              refine x_iconst 266 dX7_step_265 rfl ?_
              refine x_vv 269 [_] (m_fails 1 (by omega)) mX7_fails kX7_90 dX7_step_266 rfl rfl ⟨by decide, rfl⟩ rfl rfl (Nat.le_of_ble_eq_true rfl) (by decide) (fun M6 q6 => ?_)
              rw [if_pos (by rw [up2_k _ _ _ (by omega), up2_k _ _ _ (by omega)]; exact u8)] at q6
              subst q6
              refine x_vret dX7_step_269 rfl ⟨rfl, Nat.le_refl _⟩ (qv_i ?_)
              first
                | (have h59 : btA b n (tkS b n p) = 59 := by assumption
                   rw [hbi] at h59
                   refine ⟨⟨?_, ?_, ?_, fun z => ?_, fun _ => ⟨?_, ?_⟩⟩, (hF3.up _ _ (by omega)).up _ _ (by omega)⟩
                   · rw [up2_k _ _ _ (by omega), up2_k _ _ _ (by omega)]; exact u11
                   · rw [up2_k _ _ _ (by omega), up2_s, c1]
                   · rw [up2_s, c2]
                   · rw [c4, decide_eq_true_eq] at z; exact absurd h59 z
                   · rw [up2_k _ _ _ (by omega), up2_k _ _ _ (by omega)]; exact u8
                   · rw [up2_k _ _ _ (by omega), up2_k _ _ _ (by omega)]; unfold tkV; rw [if_neg (by omega)]; exact u13)
                | (have h59 : ¬ btA b n (tkS b n p) = 59 := by assumption
                   rw [hbi] at h59
                   refine ⟨⟨?_, ?_, ?_, fun _ => ⟨?_, ?_⟩, fun z => ?_⟩, (((hF3.up _ _ (by omega)).up _ _ (by omega)).up _ _ (by omega)).up _ _ (by omega)⟩
                   · rw [up2_k _ _ _ (by omega), up2_k _ _ _ (by omega), up2_k _ _ _ (by omega), up2_k _ _ _ (by omega)]; exact u11
                   · rw [up2_k _ _ _ (by omega), up2_k _ _ _ (by omega), up2_k _ _ _ (by omega), up2_s, c1]
                   · rw [up2_k _ _ _ (by omega), up2_k _ _ _ (by omega), up2_s, c2]
                   · rw [up2_k _ _ _ (by omega), up2_s]
                   · rw [up2_s, up2_k _ _ _ (by omega), up2_k _ _ _ (by omega)]; exact u11
                   · rw [c4, decide_eq_false_iff_not] at z; exact absurd h59 z)
          · exact figs hn (fun z => by have := btA_lt.mpr ⟨hn, z⟩; contradiction) (btA_fg.mp (by assumption)).2 ((n - tkS b n p).toNat + 1) _ M3 _ (by omega) (by omega) (by omega) rfl hF3 u10 u11 u8 (by rw [u13]; unfold numP; rw [if_pos rfl])
        · exact lets hn (btA_lt.mp (by assumption)).2 ((n - tkS b n p).toNat + 1) _ M3 _ (by omega) (by omega) (by omega) rfl hF3 u10 u11 u8 u13
      · exfalso; omega
    · have hbo := btA_out (b := b) (Int.not_lt.mp hn)
      obtain ⟨c1, c2, c4⟩ := tk_end (b := b) (p := p) (Int.not_lt.mp hn)
      refine x_iload_n 57 1 dX7_step_56 rfl rfl (by decide) rfl ?_
      refine x_bipush 59 dX7_step_57 rfl (by decide) ?_
      refine x_icmp_ne 70 62 dX7_step_59 (by decide) rfl (by omega) (fun h59 => ?_) (fun h59 => ?_)
      · exfalso; omega
      · refine x_aload_n 63 0 dX7_step_62 rfl rfl (by decide) rfl ?_
        refine x_iconst 64 dX7_step_63 rfl ?_
        refine x_putI 67 12 12 rfl dX7_step_64 rfl fX7_69 rfl rfl rfl (by omega) ?_
        refine x_goto 269 dX7_step_67 (by decide) ?_
        refine x_vret dX7_step_269 rfl ⟨rfl, Nat.le_refl _⟩ (qv_i ?_)
        refine ⟨⟨?_, ?_, ?_, fun z => ?_, fun _ => ⟨?_, ?_⟩⟩, hF3.up _ _ (by omega)⟩
        · rw [up2_k _ _ _ (by omega)]; exact u11
        · rw [up2_s, c1]
        · rw [up2_k _ _ _ (by omega), c2]; exact u10
        · rw [c4] at z; cases z
        · rw [up2_k _ _ _ (by omega)]; exact u8
        · rw [up2_k _ _ _ (by omega)]; unfold tkV; rw [if_neg (by omega)]; exact u13
  have blanks : ∀ (m : Nat) (q : Int) (M2 : Mem), n - q < m → p ≤ q → q ≤ n → scan isBk b n q = tkS b n p → FS M M2 → M2 50 10 = q → M2 50 8 = 0 → X g tX7_step (kk0 1) 8 [some (rv g 50), none] [] (S0, R0, M2) (QV (fun M3 => TKS b n p M3 ∧ FS M M3)) := by
    intro m
    induction m with
    | zero => intro q M2 k1 k2 k3; omega
    | succ m ih =>
      intro q M2 k1 k2 k3 hsc hF2 u10 u8
      have hT4 := hT.fs hF2
      have br := btA_rng hT (show 0 ≤ q by omega)
      refine x_aload_n 9 0 dX7_step_8 rfl rfl (by decide) rfl ?_
      refine x_aload_n 10 0 dX7_step_9 rfl rfl (by decide) rfl ?_
      refine x_getI 13 10 10 rfl dX7_step_10 rfl fX7_72 rfl rfl (fun g10 => ?_)
      rw [u10]
      refine x_vp 16 [_] (m_byteAt hT4 q (by omega)) mX7_byteAt kX7_75 dX7_step_13 rfl rfl ⟨by decide, rfl⟩ rfl rfl (Nat.le_of_ble_eq_true rfl) (by decide) ?_
      refine x_bipush 18 dX7_step_16 rfl (by decide) ?_
      refine x_icmp_ne 34 21 dX7_step_18 (by decide) rfl (by omega) (fun h18 => ?_) (fun h18 => ?_)
      · have hqe : scan isBk b n q = q := scan_no (fun z => by have := btA_bk.mpr z; contradiction)
        have hqe2 : q = tkS b n p := hqe.symm.trans hsc
        refine x_aload_n 35 0 dX7_step_34 rfl rfl (by decide) rfl ?_
        refine x_aload_n 36 0 dX7_step_35 rfl rfl (by decide) rfl ?_
        refine x_getI 39 10 10 rfl dX7_step_36 rfl fX7_72 rfl rfl (fun g36 => ?_)
        rw [u10]
        refine x_putI 42 11 11 rfl dX7_step_39 rfl fX7_63 rfl rfl rfl (by omega) ?_
        refine x_mem (fun M5 => FS M M5 ∧ M5 50 10 = q ∧ M5 50 11 = q ∧ M5 50 8 = 0) ⟨hF2.up _ _ (by omega), (up2_k _ _ _ (by omega)).trans u10, up2_s _ _ _ _, (up2_k _ _ _ (by omega)).trans u8⟩ (fun M5 hM5 => ?_)
        obtain ⟨hF5, v10, v11, v8⟩ := hM5
        have hT5 := hT.fs hF5
        refine x_aload_n 43 0 dX7_step_42 rfl rfl (by decide) rfl ?_
        refine x_aload_n 44 0 dX7_step_43 rfl rfl (by decide) rfl ?_
        refine x_getI 47 10 10 rfl dX7_step_44 rfl fX7_72 rfl rfl (fun g44 => ?_)
        rw [v10]
        refine x_vp 50 [_] (m_byteAt hT5 q (by omega)) mX7_byteAt kX7_75 dX7_step_47 rfl rfl ⟨by decide, rfl⟩ rfl rfl (Nat.le_of_ble_eq_true rfl) (by decide) ?_
        refine x_istore_n 51 1 _ dX7_step_50 rfl rfl (by decide) rfl rfl ?_
        refine x_aload_n 52 0 dX7_step_51 rfl rfl (by decide) rfl ?_
        refine x_iconst 53 dX7_step_52 rfl ?_
        refine x_putI 56 13 13 rfl dX7_step_53 rfl fX7_79 rfl rfl rfl (by omega) ?_
        rw [hqe2] at v10 v11 ⊢
        exact tail56 _ (hF5.up _ _ (by omega)) ((up2_k _ _ _ (by omega)).trans v10) ((up2_k _ _ _ (by omega)).trans v11) ((up2_k _ _ _ (by omega)).trans v8) (up2_s _ _ _ _)
      · obtain ⟨hq1, hq2⟩ := btA_bk.mp (by assumption)
        refine x_aload_n 22 0 dX7_step_21 rfl rfl (by decide) rfl ?_
        refine x_dup 23 dX7_step_22 rfl rfl ?_
        refine x_getI 26 10 10 rfl dX7_step_23 rfl fX7_72 rfl rfl (fun g23 => ?_)
        rw [u10]
        refine x_iconst 27 dX7_step_26 rfl ?_
        refine x_iadd 28 dX7_step_27 rfl ?_
        refine x_putI 31 10 10 rfl dX7_step_28 rfl fX7_72 rfl rfl rfl (by omega) ?_
        refine x_goto 8 dX7_step_31 (by decide) ?_
        exact ih (q + 1) _ (by omega) (by omega) (by omega) ((scan_go hq1 hq2).symm.trans hsc) (hF2.up _ _ (by omega)) (up2_s _ _ _ _) ((up2_k _ _ _ (by omega)).trans u8)
  refine x_aload_n 1 0 dX7_step_0 rfl rfl (by decide) rfl ?_
  refine x_getI 4 8 8 rfl dX7_step_1 rfl fX7_60 rfl rfl (fun g1 => ?_)
  refine x_if_le 8 7 dX7_step_4 (by decide) rfl (by omega) (fun h4 => ?_) (fun h4 => ?_)
  · exact blanks ((n - p).toNat + 1) p M (by omega) (by omega) (by omega) rfl (FS.rf M) h10 h8
  · exfalso; omega
