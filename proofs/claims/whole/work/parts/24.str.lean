/-! ===== texts: String's own code over the five constants ===== -/
def sv (g : GG) (i : Nat) : Value := .ref (gK g i)
def bv (g : GG) (i : Nat) : Value := .ref (gV g i)
theorem wS_val : Cond.fieldLink RJ0 9 "java/lang/String" "value" "[B" ∈ xG := xm 1098 (by decide +kernel) (by decide +kernel)
theorem wS_cod : Cond.fieldLink RJ0 15 "java/lang/String" "coder" "B" ∈ xG := xm 1099 (by decide +kernel) (by decide +kernel)
theorem wS_cmp : Cond.fieldLink RJ0 38 "java/lang/String" "COMPACT_STRINGS" "Z" ∈ xG := xm 289 (by decide +kernel) (by decide +kernel)
theorem wS_fmt : Cond.fieldLink RJ0 1053 "jdk/internal/util/Preconditions" "SIOOBE_FORMATTER" "Ljava/util/function/BiFunction;" ∈ xG := xm 305 (by decide +kernel) (by decide +kernel)
section XSTR
variable {g : GG} {T : XT} {K : XK} {pc : Nat} {L : List (Option Value)} {st : List Value} {hp : Hp} {Q : Option Value → Hp → Prop} {x : Int}
theorem x_ldcS (n : Nat) {idx : Nat} {tx : String} (i : Nat) (hT : T.1.cls = RX5) (hz : ∀ U, xR g U → vk_R RX5 idx tx (gK g i) U) (hd : decode T.2.1 pc = .ok (.ldc idx, 2)) (hn : pc + 2 = n) (k : X g T K n L (sv g i :: st) hp Q) : X g T K pc L st hp Q := by
  subst hn
  intro p e s m args below meth c H ls locs C hI hS hl
  exact va_ldcS C.1 C.2.1 (own := RX5) (by rw [← hT]; exact C.2.2.2.1) (hz _ C.2.2.2.2.2.2.2.2.2.2.2) hd (k p e s m args below meth c H ls locs C hI hS hl)
theorem x_qload_n (n : Nat) {k : Fin 4} (i : Nat) {q : Nat} (hd : decode T.2.1 pc = .ok (.aload_n k, 1)) (hn : pc + 1 = n) (hi : (k : Nat) = i) (hb : i < T.2.2.1) (hL : L[i]? = some (some (.ref q))) (kk : X g T K n L (.ref q :: st) hp Q) : X g T K pc L st hp Q := by
  subst hn
  intro p e s m args below meth c H ls locs C hI hS hl
  exact lv_aload_n C.1 C.2.1 hd hi (xL_at hl hb hL) (kk p e s m args below meth c H ls locs C hI hS hl)
theorem x_sval (n : Nat) {i : Nat} (hi : i < 5) (hT : T.1.cls = RJ0) (hd : decode T.2.1 pc = .ok (.getfield 9, 3)) (hn : pc + 3 = n) (k : X g T K n L (bv g i :: st) hp Q) : X g T K pc L (sv g i :: st) hp Q := by
  subst hn
  intro p e s m args below meth c H ls locs C hI hS hl
  have hZ := C.2.2.2.2.2.2.2.2.2.2.1
  exact vk_getf C.1 C.2.1 (hZ.1.1 i hi).2.2.1 hS (own := RJ0) (by rw [← hT]; exact C.2.2.2.1) (C.2.2.2.2.1 _ wS_val) (fun _ h => h) hd (k p e s m args below meth c H ls locs C hI hS hl)
theorem x_scod (n : Nat) {i : Nat} (hi : i < 5) (hT : T.1.cls = RJ0) (hd : decode T.2.1 pc = .ok (.getfield 15, 3)) (hn : pc + 3 = n) (k : X g T K n L (iv 0 :: st) hp Q) : X g T K pc L (sv g i :: st) hp Q := by
  subst hn
  intro p e s m args below meth c H ls locs C hI hS hl
  have hZ := C.2.2.2.2.2.2.2.2.2.2.1
  exact vk_getf C.1 C.2.1 (v := .int 0) (hZ.1.1 i hi).2.1 hS (own := RJ0) (by rw [← hT]; exact C.2.2.2.1) (C.2.2.2.2.1 _ wS_cod) (fun _ h => h) hd (k p e s m args below meth c H ls locs C hI hS hl)
theorem x_scmp (n : Nat) (hT : T.1.cls = RJ0) (hd : decode T.2.1 pc = .ok (.getstatic 38, 3)) (hn : pc + 3 = n) (k : X g T K n L (iv 1 :: st) hp Q) : X g T K pc L st hp Q := by
  subst hn
  intro p e s m args below meth c H ls locs C hI hS hl
  have hZ := C.2.2.2.2.2.2.2.2.2.2.1
  exact va_gets C.1 C.2.1 (v := .int 1) hZ.2.1 hS (own := RJ0) (by rw [← hT]; exact C.2.2.2.1) (C.2.2.2.2.1 _ wS_cmp) (fun _ h => h) hd (k p e s m args below meth c H ls locs C hI hS hl)
theorem x_sfmt (n : Nat) (hT : T.1.cls = RJ0) (hd : decode T.2.1 pc = .ok (.getstatic 1053, 3)) (hn : pc + 3 = n) (k : ∀ w : Value, w.category = 1 → X g T K n L (w :: st) hp Q) : X g T K pc L st hp Q := by
  subst hn
  intro p e s m args below meth c H ls locs C hI hS hl
  have hZ := C.2.2.2.2.2.2.2.2.2.2.1
  rcases hZ.2.2 with h | ⟨t, h⟩
  · exact va_gets C.1 C.2.1 (v := .null) h hS (own := RJ0) (by rw [← hT]; exact C.2.2.2.1) (C.2.2.2.2.1 _ wS_fmt) (fun _ h => h) hd (k .null rfl p e s m args below meth c H ls locs C hI hS hl)
  · exact va_gets C.1 C.2.1 (v := .ref t) h hS (own := RJ0) (by rw [← hT]; exact C.2.2.2.1) (C.2.2.2.2.1 _ wS_fmt) (fun _ h => h) hd (k (.ref t) rfl p e s m args below meth c H ls locs C hI hS hl)
theorem x_slen (n : Nat) {i : Nat} (hi : i < 5) (z : Int) (hz : ((xlen.getD i 0 : Nat) : Int) = z) (hd : decode T.2.1 pc = .ok (.arraylength, 1)) (hn : pc + 1 = n) (k : X g T K n L (iv z :: st) hp Q) : X g T K pc L (bv g i :: st) hp Q := by
  subst hn; subst hz
  intro p e s m args below meth c H ls locs C hI hS hl
  have hZ := C.2.2.2.2.2.2.2.2.2.2.1
  exact va_tlen C.1 C.2.1 (hZ.1.1 i hi).2.2.2 hS (v := Int32.ofInt ((xlen.getD i 0 : Nat) : Int)) Int32.ofInt_eq_ofNat.symm hd (k p e s m args below meth c H ls locs C hI hS hl)
/-- the letters -/
def xch (i : Nat) (j : Int) : Int := ((xbyt.getD i []).getD j.toNat 0).toInt
theorem x_sbyte (n : Nat) {i : Nat} (hi : i < 5) (hd : decode T.2.1 pc = .ok (.baload, 1)) (hn : pc + 1 = n) (hr : 0 ≤ x ∧ x < ((xlen.getD i 0 : Nat) : Int)) (k : X g T K n L (iv (xch i x) :: st) hp Q) : X g T K pc L (iv x :: bv g i :: st) hp Q := by
  subst hn
  intro p e s m args below meth c H ls locs C hI hS hl
  have hZ := C.2.2.2.2.2.2.2.2.2.2.1
  have h8 : xlen.getD i 0 < 2147483648 := by
    match i, hi with
    | 0, _ => decide
    | 1, _ => decide
    | 2, _ => decide
    | 3, _ => decide
    | 4, _ => decide
  refine va_tb C.1 C.2.1 (hZ.1.1 i hi).2.2.2 hS (v := iv (xch i x)) (iIn ⟨hr.1, hr.2, h8⟩) ?_ hd (k p e s m args below meth c H ls locs C hI hS hl)
  rw [iClamp ⟨hr.1, hr.2, h8⟩]
  show Value.int _ = Value.int _
  rw [xch, Int32.ofInt_toInt]
theorem x_i2c (n : Nat) (z : Int) (hd : decode T.2.1 pc = .ok (.i2c, 1)) (hn : pc + 1 = n) (hz : ((Int32.ofInt x).toUInt32 % 65536).toInt32 = Int32.ofInt z) (k : X g T K n L (iv z :: st) hp Q) : X g T K pc L (iv x :: st) hp Q := by
  subst hn
  intro p e s m args below meth c H ls locs C hI hS hl
  exact lv_i2c C.1 C.2.1 hd hz (k p e s m args below meth c H ls locs C hI hS hl)
theorem x_callVs (n : Nat) {T2 : XT} {d mc ms idx i na : Nat} (hi : i < 5) (As : List Value) {stk : List Value} {Q2 : Option Value → Hp → Prop} (hc : Con g T2 d mc ms (sv g i :: As) hp Q2) (hM : MV T2 na) (hlink : Cond.methodLink T.1.cls idx T2.1 ∈ xG) (hd : decode T.2.1 pc = .ok (.invokevirtual idx, 3)) (hn : pc + 3 = n)
    (hci : T2.1.cls = "java/lang/String") (hlen : As.length = na) (hstk : stk = As.reverse ++ sv g i :: st) (hcat : (st.map fun v => v.category).sum ≤ 8) (hroom : d + 1 ≤ K.1 ∧ K.2.2.1 + mc ≤ K.2.1.1 ∧ K.2.2.2 + ms ≤ K.2.1.2)
    (k : ∀ (v : Option Value) (hp' : Hp), Q2 v hp' → X g T (K.1, K.2.1, (K.2.2.1 + mc, K.2.2.2 + ms)) n L (v.toList ++ st) hp' Q) : X g T K pc L stk hp Q := by
  subst hn
  intro p e s m args below meth c H ls locs C hI hS hl
  obtain ⟨hx, hb, hml, hown, hts, hr, hlk, hK, hB, hnm, hZ, hR⟩ := id C
  refine W.sized (fun hup => ?_)
  have hlo := xlow hI.1 hI.2 hB hS
  have hHz : H.size = gB g + hp.1.length := by omega
  obtain ⟨⟨m1, m2, m3, m4⟩, m5, m6⟩ := hM
  have hrecv := vk_recv hZ.1 hi hS
  rw [← hci] at hrecv
  refine x_ofRun (va_runV (As := As) (rest := st) (C := T2.1.cls) (Ts := xG) (nL := T.2.2.1) (bytes := T2.2.1) (maxL := T2.2.2.1) (ret := T2.2.2.2) ⟨hx, hb, hml, hown, hts⟩ hc ⟨callB_of na hts (xgood m1) rfl rfl rfl (hts _ m2) (hts _ hlink) m3 ⟨hroom.1, ?_⟩, hts _ m5, hts _ m6⟩ ⟨xblind, hrecv, xpre C hI.1 hHz hS _⟩ rfl hlen hl.1 hstk (lv_room hcat) hd ⟨hroom.2.1, hroom.2.2⟩) hS (fun v hp' H1 locs1 hq hi hs1 => k v hp' hq p e s m args below meth c H1 ls locs1 C ⟨hi.1, ?_⟩ hs1 hl)
  · show 8 + (T2.2.2.1 + 11) + 35 * d ≤ 35 * K.1
    omega
  · show s.heap.size + (K.2.2.1 + mc) = gB g + hp'.1.length
    have := hi.2
    omega
end XSTR
theorem x_vps {g : GG} {T T2 : XT} {D d pc idx i na : Nat} {L : List (Option Value)} {st stk : List Value} {Q : Option Value → Hp → Prop} {M : Mem} (n : Nat) (hi : i < 5) (As : List Value) {r : Int} (hc : CP g T2 d (sv g i :: As) M r) (hM : MV T2 na) (hlink : Cond.methodLink T.1.cls idx T2.1 ∈ xG) (hd : decode T.2.1 pc = .ok (.invokevirtual idx, 3)) (hn : pc + 3 = n) (hci : T2.1.cls = "java/lang/String") (hlen : As.length = na) (hstk : stk = As.reverse ++ sv g i :: st) (hcat : (st.map fun v => v.category).sum ≤ 8) (hroom : d + 1 ≤ D) (k : X g T (kk0 D) n L (iv r :: st) (S0, R0, M) Q) : X g T (kk0 D) pc L stk (S0, R0, M) Q := by
  refine x_callVs n hi As hc hM hlink hd hn hci hlen hstk hcat ⟨hroom, Nat.le_refl _, Nat.le_refl _⟩ (fun v hp' hq => ?_)
  obtain ⟨rfl, rfl⟩ := hq
  exact k
theorem sh0 (x : Int) : Int32.ofInt x >>> (Int32.ofInt 0 &&& 31) = Int32.ofInt x := sb_shr0 (Int32.ofInt x)
theorem xch_rng : ∀ i, i < 5 → ∀ j, j < 8 → 0 ≤ xch i (j : Nat) ∧ xch i (j : Nat) ≤ 127 := by decide +kernel
theorem xch_b {i : Nat} {x : Int} (hi : i < 5) (hx : 0 ≤ x ∧ x < 8) : 0 ≤ xch i x ∧ xch i x ≤ 127 := by
  obtain ⟨k, rfl⟩ := Int.eq_ofNat_of_zero_le hx.1
  exact xch_rng i hi k (by omega)
theorem xlen_8 {i : Nat} (hi : i < 5) : xlen.getD i 0 ≤ 8 := by
  match i, hi with
  | 0, _ => decide
  | 1, _ => decide
  | 2, _ => decide
  | 3, _ => decide
  | 4, _ => decide
theorem and255 {c : Int} (h : 0 ≤ c ∧ c ≤ 127) : Int32.ofInt c &&& Int32.ofInt 255 = Int32.ofInt c := by
  obtain ⟨k, rfl⟩ := Int.eq_ofNat_of_zero_le h.1
  rw [iN]
  have : ∀ n, n < 128 → nI n &&& Int32.ofInt 255 = nI n := by decide +kernel
  exact this k (by omega)
theorem i2c_s {c : Int} (h : 0 ≤ c ∧ c ≤ 127) : ((Int32.ofInt c).toUInt32 % 65536).toInt32 = Int32.ofInt c := by
  obtain ⟨k, rfl⟩ := Int.eq_ofNat_of_zero_le h.1
  rw [iN]
  have : ∀ n, n < 128 → ((nI n).toUInt32 % 65536).toInt32 = nI n := by decide +kernel
  exact this k (by omega)
theorem nar_c {c : Int} (h : 0 ≤ c ∧ c ≤ 127) : narrow .char (iv c) = iv c := by
  obtain ⟨k, rfl⟩ := Int.eq_ofNat_of_zero_le h.1
  unfold iv
  rw [iN]
  exact (pk_charN (by omega)).1

theorem c_coder {g : GG} {M : Mem} {i : Nat} (hi : i < 5) : CP g tJ0_coder_7d493 0 [sv g i] M 0 := by
  refine Con.ofF [some (sv g i)] (by decide +kernel) rfl (Nat.le_of_ble_eq_true rfl) ?_
  refine x_scmp 3 rfl dJ0_coder_7d493_0 rfl ?_
  refine x_if_eq 13 6 dJ0_coder_7d493_3 (by decide) rfl (by omega) (fun h => by omega) (fun _ => ?_)
  refine x_qload_n 7 0 dJ0_coder_7d493_6 rfl rfl (by decide) rfl ?_
  refine x_scod 10 hi rfl dJ0_coder_7d493_7 rfl ?_
  refine x_goto 14 dJ0_coder_7d493_10 (by decide) ?_
  exact x_ret .byte dJ0_coder_7d493_14 rfl rfl ⟨rfl, Nat.le_refl _⟩ (qp_i rfl rfl)
theorem c_isLatin1 {g : GG} {M : Mem} {i : Nat} (hi : i < 5) : CP g tJ0_isLatin1_aae02 0 [sv g i] M 1 := by
  refine Con.ofF [some (sv g i)] (by decide +kernel) rfl (Nat.le_of_ble_eq_true rfl) ?_
  refine x_scmp 3 rfl dJ0_isLatin1_aae02_0 rfl ?_
  refine x_if_eq 17 6 dJ0_isLatin1_aae02_3 (by decide) rfl (by omega) (fun h => by omega) (fun _ => ?_)
  refine x_qload_n 7 0 dJ0_isLatin1_aae02_6 rfl rfl (by decide) rfl ?_
  refine x_scod 10 hi rfl dJ0_isLatin1_aae02_7 rfl ?_
  refine x_if_ne 17 13 dJ0_isLatin1_aae02_10 (by decide) rfl (by omega) (fun h => by omega) (fun _ => ?_)
  refine x_iconst 14 dJ0_isLatin1_aae02_13 rfl ?_
  refine x_goto 18 dJ0_isLatin1_aae02_14 (by decide) ?_
  exact x_zret dJ0_isLatin1_aae02_18 rfl (Or.inr rfl) ⟨rfl, Nat.le_refl _⟩ (qp_i rfl rfl)
theorem c_slength {g : GG} {M : Mem} {i : Nat} (hi : i < 5) : CP g tJ0_length_8abf5 1 [sv g i] M ((xlen.getD i 0 : Nat) : Int) := by
  refine Con.ofF [some (sv g i)] (by decide +kernel) rfl (Nat.le_of_ble_eq_true rfl) ?_
  refine x_qload_n 1 0 dJ0_length_8abf5_0 rfl rfl (by decide) rfl ?_
  refine x_sval 4 hi rfl dJ0_length_8abf5_1 rfl ?_
  refine x_slen 5 hi _ rfl dJ0_length_8abf5_4 rfl ?_
  refine x_qload_n 6 0 dJ0_length_8abf5_5 rfl rfl (by decide) rfl ?_
  refine x_vps 9 hi [] (c_coder hi) mJ0_coder_7d493 kJ0_335 dJ0_length_8abf5_6 rfl rfl rfl rfl (Nat.le_of_ble_eq_true rfl) (by decide) ?_
  refine x_ishr 10 ((xlen.getD i 0 : Nat) : Int) dJ0_length_8abf5_9 rfl (sh0 _) ?_
  exact x_iret dJ0_length_8abf5_10 rfl ⟨rfl, Nat.le_refl _⟩ (qp_i rfl rfl)
theorem c_checkIndex {g : GG} {M : Mem} (i n : Int) (hi : 0 ≤ i ∧ i < n) (hn : n ≤ 2147483647) (w : Value) (hw : w.category = 1) : CP g tJ3_checkIndex_8e157 0 [iv i, iv n, w] M i := by
  have c1 : (iv i).category = 1 := rfl
  have c2 : (iv n).category = 1 := rfl
  have hxa : xargs [iv i, iv n, w] = [some (iv i), some (iv n), some w] := by simp [xargs, hw, c1, c2]
  have hsl : (lg_sl [iv i, iv n, w]).length = 3 := by simp [lg_sl, hw, c1, c2]
  refine Con.ofF [some (iv i), some (iv n), some w] (by decide +kernel) (by rw [hxa]; rfl) (by rw [hsl]; exact Nat.le_refl _) ?_
  refine x_iload_n 1 0 dJ3_checkIndex_8e157_0 rfl rfl (by decide) rfl ?_
  refine x_if_lt 9 4 dJ3_checkIndex_8e157_1 (by decide) rfl (by omega) (fun h => by omega) (fun _ => ?_)
  refine x_iload_n 5 0 dJ3_checkIndex_8e157_4 rfl rfl (by decide) rfl ?_
  refine x_iload_n 6 1 dJ3_checkIndex_8e157_5 rfl rfl (by decide) rfl ?_
  refine x_icmp_lt 16 9 dJ3_checkIndex_8e157_6 (by decide) rfl (by omega) (fun _ => ?_) (fun h => by omega)
  refine x_iload_n 17 0 dJ3_checkIndex_8e157_16 rfl rfl (by decide) rfl ?_
  exact x_iret dJ3_checkIndex_8e157_17 rfl ⟨rfl, Nat.le_refl _⟩ (qp_i rfl rfl)
theorem c_strCheck {g : GG} {M : Mem} (i n : Int) (hi : 0 ≤ i ∧ i < n) (hn : n ≤ 2147483647) : CV g tJ0_checkIndex_df160 1 [iv i, iv n] M (fun M2 => M2 = M) := by
  refine Con.ofF [some (iv i), some (iv n)] (by decide +kernel) rfl (Nat.le_of_ble_eq_true rfl) ?_
  refine x_iload_n 1 0 dJ0_checkIndex_df160_0 rfl rfl (by decide) rfl ?_
  refine x_iload_n 2 1 dJ0_checkIndex_df160_1 rfl rfl (by decide) rfl ?_
  refine x_sfmt 5 rfl dJ0_checkIndex_df160_2 rfl (fun w hw => ?_)
  refine x_sp 8 [iv i, iv n, w] (c_checkIndex i n hi hn w hw) mJ3_checkIndex_8e157 kJ0_1059 dJ0_checkIndex_df160_5 rfl rfl rfl (Nat.le_of_ble_eq_true rfl) (by decide) ?_
  refine x_pop 9 dJ0_checkIndex_df160_8 rfl rfl ?_
  exact x_vret dJ0_checkIndex_df160_9 rfl ⟨rfl, Nat.le_refl _⟩ (qv_i rfl)
theorem c_latCharAt {g : GG} {M : Mem} {i : Nat} (hi : i < 5) (x : Int) (hx : 0 ≤ x ∧ x < ((xlen.getD i 0 : Nat) : Int)) : CP g tJ1_charAt_3b067 2 [bv g i, iv x] M (xch i x) := by
  have h8 := xlen_8 hi
  have hc := xch_b hi (x := x) (by omega)
  refine Con.ofF [some (bv g i), some (iv x)] (by decide +kernel) rfl (Nat.le_of_ble_eq_true rfl) ?_
  refine x_iload_n 1 1 dJ1_charAt_3b067_0 rfl rfl (by decide) rfl ?_
  refine x_qload_n 2 0 dJ1_charAt_3b067_1 rfl rfl (by decide) rfl ?_
  refine x_slen 3 hi _ rfl dJ1_charAt_3b067_2 rfl ?_
  refine x_sv 6 [_, _] (c_strCheck x _ hx (by omega)) mJ0_checkIndex_df160 kJ1_9 dJ1_charAt_3b067_3 rfl rfl rfl (Nat.le_of_ble_eq_true rfl) (by decide) (fun M2 hq => ?_)
  subst hq
  refine x_qload_n 7 0 dJ1_charAt_3b067_6 rfl rfl (by decide) rfl ?_
  refine x_iload_n 8 1 dJ1_charAt_3b067_7 rfl rfl (by decide) rfl ?_
  refine x_sbyte 9 hi dJ1_charAt_3b067_8 rfl hx ?_
  refine x_sipush 12 dJ1_charAt_3b067_9 rfl (by decide) ?_
  refine x_iand 13 (xch i x) dJ1_charAt_3b067_12 rfl (and255 hc) ?_
  refine x_i2c 14 (xch i x) dJ1_charAt_3b067_13 rfl (i2c_s hc) ?_
  exact x_ret .char dJ1_charAt_3b067_14 rfl (nar_c hc) ⟨rfl, Nat.le_refl _⟩ (qp_i rfl rfl)
theorem c_charAt {g : GG} {M : Mem} {i : Nat} (hi : i < 5) (x : Int) (hx : 0 ≤ x ∧ x < ((xlen.getD i 0 : Nat) : Int)) : CP g tJ0_charAt_5068e 3 [sv g i, iv x] M (xch i x) := by
  have h8 := xlen_8 hi
  have hc := xch_b hi (x := x) (by omega)
  refine Con.ofF [some (sv g i), some (iv x)] (by decide +kernel) rfl (Nat.le_of_ble_eq_true rfl) ?_
  refine x_qload_n 1 0 dJ0_charAt_5068e_0 rfl rfl (by decide) rfl ?_
  refine x_vps 4 hi [] (c_isLatin1 hi) mJ0_isLatin1_aae02 kJ0_492 dJ0_charAt_5068e_1 rfl rfl rfl rfl (Nat.le_of_ble_eq_true rfl) (by decide) ?_
  refine x_if_eq 16 7 dJ0_charAt_5068e_4 (by decide) rfl (by omega) (fun h => by omega) (fun _ => ?_)
  refine x_qload_n 8 0 dJ0_charAt_5068e_7 rfl rfl (by decide) rfl ?_
  refine x_sval 11 hi rfl dJ0_charAt_5068e_8 rfl ?_
  refine x_iload_n 12 1 dJ0_charAt_5068e_11 rfl rfl (by decide) rfl ?_
  refine x_sp 15 [_, _] (c_latCharAt hi x hx) mJ1_charAt_3b067 kJ0_495 dJ0_charAt_5068e_12 rfl rfl rfl (Nat.le_of_ble_eq_true rfl) (by decide) ?_
  exact x_ret .char dJ0_charAt_5068e_15 rfl (nar_c hc) ⟨rfl, Nat.le_refl _⟩ (qp_i rfl rfl)
