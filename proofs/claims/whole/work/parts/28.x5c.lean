set_option maxHeartbeats 4000000 in
theorem c_spells {g : GG} {M : Mem} {n : Int} {b : Int → Int} (hT : TP M n b) {i : Nat} (hi : i < 5) (s e : Int) (he : M 1 1 = e) (hs : M 1 3 = s) (hse : 0 ≤ s ∧ s ≤ e ∧ e ≤ n) : CP g tX5_spells 4 [rv g 1, sv g i] M (bI (spB b s e i = true)) := by
  refine Con.of [some (rv g 1), some (sv g i), none] (by decide +kernel) rfl (Nat.le_of_ble_eq_true rfl) ?_
  have hn := hT.2.1
  have h8 := xlen_8 hi
  have loop : e - s = ((xlen.getD i 0 : Nat) : Int) → ∀ (m k : Nat), xlen.getD i 0 - k < m → k ≤ xlen.getD i 0 → (∀ j : Nat, j < k → b (s + (j : Int)) = xch i (j : Int)) → X g tX5_spells (kk0 4) 20 [some (rv g 1), some (sv g i), some (iv k)] [] (S0, R0, M) (QP M (bI (spB b s e i = true))) := by
    intro hl m
    induction m with
    | zero => intro k k1 k2; omega
    | succ m ih =>
      intro k k1 k2 hno
      refine x_iload_n 21 2 dX5_spells_20 rfl rfl (by decide) rfl ?_
      refine x_qload_n 22 1 dX5_spells_21 rfl rfl (by decide) rfl ?_
      refine x_vps 25 hi [] (c_slength hi) mJ0_length_8abf5 kX5_118 dX5_spells_22 rfl rfl rfl rfl (Nat.le_of_ble_eq_true rfl) (by decide) ?_
      refine x_icmp_ge 57 28 dX5_spells_25 (by decide) rfl (by omega) (fun h25 => ?_) (fun h25 => ?_)
      · refine x_iconst 58 dX5_spells_57 rfl ?_
        refine x_zret dX5_spells_58 rfl (by first | exact Or.inl rfl | exact Or.inr rfl | exact bI_or _ | omega) ⟨rfl, Nat.le_refl _⟩ (qp_i ?_ rfl)
        have hk : k = xlen.getD i 0 := by omega
        have e0 : spB b s e i = true := by (unfold spB; rw [anyN_f (fun j hj => decide_eq_false (fun z => z (hno j (by omega)))), decide_eq_true hl]; rfl)
        rw [e0]; rfl
      · refine x_aload_n 29 0 dX5_spells_28 rfl rfl (by decide) rfl ?_
        refine x_getR 32 0 2 dX5_spells_29 rfl fX5_12 rfl rfl rfl ?_
        refine x_aload_n 33 0 dX5_spells_32 rfl rfl (by decide) rfl ?_
        refine x_getI 36 3 3 rfl dX5_spells_33 rfl fX5_89 rfl rfl (fun g33 => ?_)
        rw [hs]
        refine x_iload_n 37 2 dX5_spells_36 rfl rfl (by decide) rfl ?_
        refine x_iadd 38 dX5_spells_37 rfl ?_
        refine x_vp 41 [_] (c_bAt hT _ (by omega)) mX4_byteAt kX5_85 dX5_spells_38 rfl rfl ⟨by decide, rfl⟩ rfl rfl (Nat.le_of_ble_eq_true rfl) (by decide) ?_
        refine x_qload_n 42 1 dX5_spells_41 rfl rfl (by decide) rfl ?_
        refine x_iload_n 43 2 dX5_spells_42 rfl rfl (by decide) rfl ?_
        refine x_vps 46 hi [_] (c_charAt hi k (by omega)) mJ0_charAt_5068e kX5_122 dX5_spells_43 rfl rfl rfl rfl (Nat.le_of_ble_eq_true rfl) (by decide) ?_
        refine x_icmp_eq 51 49 dX5_spells_46 (by decide) rfl (by have h1 := hT.2.2 (s + k) (by omega) (by omega); have h2 := xch_b hi (x := k) (by omega); omega) (fun h46 => ?_) (fun h46 => ?_)
        · refine x_iinc 54 _ dX5_spells_51 rfl (by decide) rfl rfl rfl ?_
          refine x_goto 20 dX5_spells_54 (by decide) ?_
          refine ih (k + 1) (by omega) (by omega) (fun j hj => ?_)
          by_cases c : j = k
          · subst c; assumption
          · exact hno j (by omega)
        · refine x_iconst 50 dX5_spells_49 rfl ?_
          refine x_zret dX5_spells_50 rfl (by first | exact Or.inl rfl | exact Or.inr rfl | exact bI_or _ | omega) ⟨rfl, Nat.le_refl _⟩ (qp_i ?_ rfl)
          have e0 : spB b s e i = false := by (unfold spB; rw [anyN_t (k := k) (by omega) (decide_eq_true (by assumption))]; simp)
          rw [e0]; rfl
  refine x_aload_n 1 0 dX5_spells_0 rfl rfl (by decide) rfl ?_
  refine x_getI 4 1 1 rfl dX5_spells_1 rfl fX5_23 rfl rfl (fun g1 => ?_)
  rw [he]
  refine x_aload_n 5 0 dX5_spells_4 rfl rfl (by decide) rfl ?_
  refine x_getI 8 3 3 rfl dX5_spells_5 rfl fX5_89 rfl rfl (fun g5 => ?_)
  rw [hs]
  refine x_isub 9 dX5_spells_8 rfl ?_
  refine x_qload_n 10 1 dX5_spells_9 rfl rfl (by decide) rfl ?_
  refine x_vps 13 hi [] (c_slength hi) mJ0_length_8abf5 kX5_118 dX5_spells_10 rfl rfl rfl rfl (Nat.le_of_ble_eq_true rfl) (by decide) ?_
  refine x_icmp_eq 18 16 dX5_spells_13 (by decide) rfl (by omega) (fun h13 => ?_) (fun h13 => ?_)
  · refine x_iconst 19 dX5_spells_18 rfl ?_
    refine x_istore_n 20 2 _ dX5_spells_19 rfl rfl (by decide) rfl rfl ?_
    exact loop (by assumption) (xlen.getD i 0 + 1) 0 (by omega) (by omega) (fun j hj => by omega)
  · refine x_iconst 17 dX5_spells_16 rfl ?_
    refine x_zret dX5_spells_17 rfl (by first | exact Or.inl rfl | exact Or.inr rfl | exact bI_or _ | omega) ⟨rfl, Nat.le_refl _⟩ (qp_i ?_ rfl)
    have e0 : spB b s e i = false := by (unfold spB; rw [decide_eq_false (by assumption)]; rfl)
    rw [e0]; rfl

set_option maxHeartbeats 4000000 in
theorem c_wordRead {g : GG} {M : Mem} {n : Int} {b : Int → Int} (hT : TP M n b) (s e : Int) (he : M 1 1 = e) (hs : M 1 3 = s) (hse : 0 ≤ s ∧ s ≤ e ∧ e ≤ n) : CP g tX5_wordRead 5 [rv g 1] M (wordN b s e) := by
  refine Con.of [some (rv g 1)] (by decide +kernel) rfl (Nat.le_of_ble_eq_true rfl) ?_
  refine x_aload_n 1 0 dX5_wordRead_0 rfl rfl (by decide) rfl ?_
  refine x_ldcS 3 0 rfl (fun _ h => h.1.1) dX5_wordRead_1 rfl ?_
  refine x_vp 6 [_] (c_spells hT (by decide) s e he hs hse) mX5_spells kX5_106 dX5_wordRead_3 rfl rfl ⟨by decide, rfl⟩ rfl rfl (Nat.le_of_ble_eq_true rfl) (by decide) ?_
  refine x_ifeq_b 11 9 dX5_wordRead_6 (by decide) rfl (fun h6 => ?_) (fun h6 => ?_)
  · refine x_aload_n 12 0 dX5_wordRead_11 rfl rfl (by decide) rfl ?_
    refine x_ldcS 14 1 rfl (fun _ h => h.1.2.1) dX5_wordRead_12 rfl ?_
    refine x_vp 17 [_] (c_spells hT (by decide) s e he hs hse) mX5_spells kX5_106 dX5_wordRead_14 rfl rfl ⟨by decide, rfl⟩ rfl rfl (Nat.le_of_ble_eq_true rfl) (by decide) ?_
    refine x_ifeq_b 22 20 dX5_wordRead_17 (by decide) rfl (fun h17 => ?_) (fun h17 => ?_)
    · refine x_aload_n 23 0 dX5_wordRead_22 rfl rfl (by decide) rfl ?_
      refine x_ldcS 25 2 rfl (fun _ h => h.1.2.2.1) dX5_wordRead_23 rfl ?_
      refine x_vp 28 [_] (c_spells hT (by decide) s e he hs hse) mX5_spells kX5_106 dX5_wordRead_25 rfl rfl ⟨by decide, rfl⟩ rfl rfl (Nat.le_of_ble_eq_true rfl) (by decide) ?_
      refine x_ifeq_b 33 31 dX5_wordRead_28 (by decide) rfl (fun h28 => ?_) (fun h28 => ?_)
      · refine x_aload_n 34 0 dX5_wordRead_33 rfl rfl (by decide) rfl ?_
        refine x_ldcS 36 3 rfl (fun _ h => h.1.2.2.2.1) dX5_wordRead_34 rfl ?_
        refine x_vp 39 [_] (c_spells hT (by decide) s e he hs hse) mX5_spells kX5_106 dX5_wordRead_36 rfl rfl ⟨by decide, rfl⟩ rfl rfl (Nat.le_of_ble_eq_true rfl) (by decide) ?_
        refine x_ifeq_b 44 42 dX5_wordRead_39 (by decide) rfl (fun h39 => ?_) (fun h39 => ?_)
        · refine x_aload_n 45 0 dX5_wordRead_44 rfl rfl (by decide) rfl ?_
          refine x_ldcS 47 4 rfl (fun _ h => h.1.2.2.2.2) dX5_wordRead_45 rfl ?_
          refine x_vp 50 [_] (c_spells hT (by decide) s e he hs hse) mX5_spells kX5_106 dX5_wordRead_47 rfl rfl ⟨by decide, rfl⟩ rfl rfl (Nat.le_of_ble_eq_true rfl) (by decide) ?_
          refine x_ifeq_b 57 53 dX5_wordRead_50 (by decide) rfl (fun h50 => ?_) (fun h50 => ?_)
          · refine x_iconst 58 dX5_wordRead_57 rfl ?_
            refine x_iret dX5_wordRead_58 rfl ⟨rfl, Nat.le_refl _⟩ (qp_i ?_ rfl)
            unfold wordN; (repeat first | rw [if_neg (by assumption)] | rw [if_pos (by assumption)])
          · refine x_iconst 54 dX5_wordRead_53 rfl ?_
            refine x_goto 58 dX5_wordRead_54 (by decide) ?_
            refine x_iret dX5_wordRead_58 rfl ⟨rfl, Nat.le_refl _⟩ (qp_i ?_ rfl)
            unfold wordN; (repeat first | rw [if_neg (by assumption)] | rw [if_pos (by assumption)])
        · refine x_iconst 43 dX5_wordRead_42 rfl ?_
          refine x_iret dX5_wordRead_43 rfl ⟨rfl, Nat.le_refl _⟩ (qp_i ?_ rfl)
          unfold wordN; (repeat first | rw [if_neg (by assumption)] | rw [if_pos (by assumption)])
      · refine x_iconst 32 dX5_wordRead_31 rfl ?_
        refine x_iret dX5_wordRead_32 rfl ⟨rfl, Nat.le_refl _⟩ (qp_i ?_ rfl)
        unfold wordN; (repeat first | rw [if_neg (by assumption)] | rw [if_pos (by assumption)])
    · refine x_iconst 21 dX5_wordRead_20 rfl ?_
      refine x_iret dX5_wordRead_21 rfl ⟨rfl, Nat.le_refl _⟩ (qp_i ?_ rfl)
      unfold wordN; (repeat first | rw [if_neg (by assumption)] | rw [if_pos (by assumption)])
  · refine x_iconst 10 dX5_wordRead_9 rfl ?_
    refine x_iret dX5_wordRead_10 rfl ⟨rfl, Nat.le_refl _⟩ (qp_i ?_ rfl)
    unfold wordN; (repeat first | rw [if_neg (by assumption)] | rw [if_pos (by assumption)])

def LR (o : Nat) (M M2 : Mem) (res : PR) : Prop := (∀ a, a ≠ 1 → (a < o ∨ o + 6 < a) → M2 a = M a) ∧ (res.1 ≠ 0 → M2 1 5 = res.1 ∧ M2 1 6 = res.2.1) ∧ (res.1 = 0 → M2 1 1 = res.2.2.1 ∧ Rep M2 o res.2.2.2 ∧ M2 1 5 = M 1 5 ∧ M2 1 6 = M 1 6)
theorem numO_0 {b : Int → Int} {n p m : Int} (h : numO b n p m = 0) : tkBb b n p = false ∧ tkK b n p = 2 ∧ tkV b n p ≤ m := by
  unfold numO at h
  split at h
  · omega
  · next hb =>
    split at h
    · omega
    · split at h
      · omega
      · exact ⟨Bool.eq_false_iff.mpr hb, by omega, by omega⟩
theorem sgnO_0 {b : Int → Int} {n p : Int} (h : sgnO b n p = 0) : tkBb b n p = false ∧ tkK b n p = 3 := by
  unfold sgnO at h
  split at h
  · omega
  · next hb =>
    split at h
    · omega
    · exact ⟨Bool.eq_false_iff.mpr hb, by omega⟩
theorem lg_ge {o : Nat} (h : isLg o) : 4 ≤ o := by rcases h with rfl | rfl | rfl | rfl <;> omega

set_option maxHeartbeats 4000000 in
theorem c_readTown {g : GG} {M : Mem} {n : Int} {b : Int → Int} {o : Nat} {d : LV} (hT : TP M n b) (ho : isLg o) (hR : Rep M o d) (hdn : 0 ≤ vn d ∧ vn d ≤ 5) (hdf : 0 ≤ vf d ∧ vf d ≤ 10) (w s0 p : Int) (hw : 0 ≤ w ∧ w ≤ 3) (hp : M 1 1 = p) (hs0 : M 1 3 = s0) (hpn : 0 ≤ p ∧ p ≤ n) : CI g tX5_readTown 4 [rv g 1, rv g o, iv w] M (fun r M2 => r = bI ((lnT b n d w s0 p).1 = 0) ∧ LR o M M2 (lnT b n d w s0 p)) := by
  refine Con.of [some (rv g 1), some (rv g o), some (iv w), none] (by decide +kernel) rfl (Nat.le_of_ble_eq_true rfl) ?_
  have hn := hT.2.1
  have hge := lg_ge ho
  obtain ⟨e6, e7, -, -, -⟩ := id hR
  have hE := tkE_le (b := b) hpn.2
  have hS := tkS_le (b := b) hpn.2
  refine x_aload_n 1 1 dX5_readTown_0 rfl rfl (by decide) rfl ?_
  refine x_vp 4 [] (c_isFullOfTowns ho) mX1_isFullOfTowns kX5_59 dX5_readTown_1 rfl (lg_s ho) ⟨by decide, rfl⟩ rfl rfl (Nat.le_of_ble_eq_true rfl) (by decide) ?_
  refine x_ifeq_b 13 7 dX5_readTown_4 (by decide) rfl (fun h4 => ?_) (fun h4 => ?_)
  · refine x_aload_n 14 0 dX5_readTown_13 rfl rfl (by decide) rfl ?_
    refine x_bipush 16 dX5_readTown_14 rfl (by decide) ?_
    refine x_vi 19 [_] (c_readNumber hT p hp hpn 20 (by omega)) mX5_readNumber kX5_62 dX5_readTown_16 rfl rfl ⟨by decide, rfl⟩ rfl rfl (Nat.le_of_ble_eq_true rfl) (by decide) (fun r1 M1 q1 => ?_)
    obtain ⟨a10, a13, rfl, a1b, a1g⟩ := q1
    refine x_ifne_b 24 22 dX5_readTown_19 (by decide) rfl (fun h19 => ?_) (fun h19 => ?_)
    · have hO : numO b n p 20 = 0 := by assumption
      obtain ⟨g1, g4, g5, g6⟩ := a1g hO
      have nz := numO_0 hO
      have vb := tkV_bd hpn.2 nz.1
      have hT1 := hT.keep a10
      refine x_aload_n 25 0 dX5_readTown_24 rfl rfl (by decide) rfl ?_
      refine x_getI 28 4 4 rfl dX5_readTown_25 rfl fX5_65 rfl rfl (fun g25 => ?_)
      refine x_istore_n 29 3 _ dX5_readTown_28 rfl rfl (by decide) rfl rfl ?_
      refine x_aload_n 30 0 dX5_readTown_29 rfl rfl (by decide) rfl ?_
      refine x_vi 33 [] (c_readSign hT1 (tkE b n p) g1 (by omega)) mX5_readSign kX5_68 dX5_readTown_30 rfl rfl ⟨by decide, rfl⟩ rfl rfl (Nat.le_of_ble_eq_true rfl) (by decide) (fun rs Ms qs => ?_)
      obtain ⟨s0_, s3, rfl, sb, sg⟩ := qs
      refine x_ifne_b 38 36 dX5_readTown_33 (by decide) rfl (fun h33 => ?_) (fun h33 => ?_)
      · have hO2 : sgnO b n (tkE b n p) = 0 := by assumption
        obtain ⟨k1, -, k5, k6⟩ := sg hO2
        have hR3 : Rep Ms o d := hR.keep (fun a h1 h2 => (s0_ a (by omega)).trans (a10 a (by omega)))
        refine x_aload_n 39 1 dX5_readTown_38 rfl rfl (by decide) rfl ?_
        refine x_iload_n 40 2 dX5_readTown_39 rfl rfl (by decide) rfl ?_
        refine x_iload_n 41 3 dX5_readTown_40 rfl rfl (by decide) rfl ?_
        refine x_vv 44 [_, _] (c_addTown ho hR3 (by omega) w _ (by omega) (by omega)) mX1_addTown kX5_71 dX5_readTown_41 rfl (lg_s ho) ⟨by decide, rfl⟩ rfl rfl (Nat.le_of_ble_eq_true rfl) (by decide) (fun M4 q4 => ?_)
        obtain ⟨hR4, hF4⟩ := q4
        refine x_iconst 45 dX5_readTown_44 rfl ?_
        refine x_zret dX5_readTown_45 rfl (by first | exact Or.inl rfl | exact Or.inr rfl | exact bI_or _ | omega) ⟨rfl, Nat.le_refl _⟩ (qi_i ?_)
        have hres : lnT b n d w s0 p = (0, 0, tkE b n (tkE b n p), addT d w (tkV b n p)) := by (unfold lnT; rw [if_neg (by omega), if_neg (by omega), if_neg (by omega)])
        rw [hres]
        have z1 : M4 1 = Ms 1 := hF4 1 (by omega)
        rw [g4 nz.2.1] at hR4
        refine ⟨rfl, fun a h1 h2 => ((hF4 a h2).trans (s0_ a h1)).trans (a10 a h1), fun z => absurd rfl z, fun _ => ⟨?_, hR4, ?_, ?_⟩⟩
        · rw [z1]; exact k1
        · rw [z1, k5]; exact g5
        · rw [z1, k6]; exact g6
      · refine x_iconst 37 dX5_readTown_36 rfl ?_
        refine x_zret dX5_readTown_37 rfl (by first | exact Or.inl rfl | exact Or.inr rfl | exact bI_or _ | omega) ⟨rfl, Nat.le_refl _⟩ (qi_i ?_)
        have hO2 : sgnO b n (tkE b n p) ≠ 0 := by assumption
        have hres : lnT b n d w s0 p = (sgnO b n (tkE b n p), tkS b n (tkE b n p), 0, d) := by (unfold lnT; rw [if_neg (by omega), if_neg (by omega), if_pos hO2])
        rw [hres]
        exact ⟨(bI_f hO2).symm, fun a h1 _ => (s0_ a h1).trans (a10 a h1), fun _ => sb hO2, fun z => absurd z hO2⟩
    · refine x_iconst 23 dX5_readTown_22 rfl ?_
      refine x_zret dX5_readTown_23 rfl (by first | exact Or.inl rfl | exact Or.inr rfl | exact bI_or _ | omega) ⟨rfl, Nat.le_refl _⟩ (qi_i ?_)
      have hO : numO b n p 20 ≠ 0 := by assumption
      have hres : lnT b n d w s0 p = (numO b n p 20, tkS b n p, 0, d) := by (unfold lnT; rw [if_neg (by omega), if_pos hO])
      rw [hres]
      exact ⟨(bI_f hO).symm, fun a h1 _ => a10 a h1, fun _ => a1b hO, fun z => absurd z hO⟩
  · refine x_aload_n 8 0 dX5_readTown_7 rfl rfl (by decide) rfl ?_
    refine x_iconst 9 dX5_readTown_8 rfl ?_
    refine x_vi 12 [_] (c_refuse _ (by omega)) mX5_refuse kX5_43 dX5_readTown_9 rfl rfl ⟨by decide, rfl⟩ rfl rfl (Nat.le_of_ble_eq_true rfl) (by decide) (fun r9 M9 q9 => ?_)
    obtain ⟨rfl, rfl⟩ := q9
    refine x_zret dX5_readTown_12 rfl (by first | exact Or.inl rfl | exact Or.inr rfl | exact bI_or _ | omega) ⟨rfl, Nat.le_refl _⟩ (qi_i ?_)
    have hres : lnT b n d w s0 p = (5, s0, 0, d) := by (unfold lnT; rw [if_pos (by omega)])
    rw [hres]
    refine ⟨rfl, fun a h1 _ => by rw [up2_o _ _ _ h1, up2_o _ _ _ h1], fun _ => ⟨?_, ?_⟩, fun z => by (have z : (5 : Int) = 0 := z; omega)⟩
    · rw [up2_k _ _ _ (by omega), up2_s]
    · rw [up2_s]; exact hs0

set_option maxHeartbeats 4000000 in
theorem c_readGame {g : GG} {M : Mem} {n : Int} {b : Int → Int} {o : Nat} {d : LV} (hT : TP M n b) (ho : isLg o) (hR : Rep M o d) (hdn : 0 ≤ vn d ∧ vn d ≤ 5) (hdf : 0 ≤ vf d ∧ vf d ≤ 10) (s0 p : Int) (hp : M 1 1 = p) (hs0 : M 1 3 = s0) (hpn : 0 ≤ p ∧ p ≤ n) : CI g tX5_readGame 4 [rv g 1, rv g o] M (fun r M2 => r = bI ((lnG b n d s0 p).1 = 0) ∧ LR o M M2 (lnG b n d s0 p)) := by
  refine Con.of [some (rv g 1), some (rv g o), none, none] (by decide +kernel) rfl (Nat.le_of_ble_eq_true rfl) ?_
  have hn := hT.2.1
  have hge := lg_ge ho
  obtain ⟨e6, e7, -, -, -⟩ := id hR
  have hE := tkE_le (b := b) hpn.2
  have hS := tkS_le (b := b) hpn.2
  have hE2 := tkE_le (b := b) hE.2
  have hS2 := tkS_le (b := b) hE.2
  have hE3 := tkE_le (b := b) hE2.2
  refine x_aload_n 1 1 dX5_readGame_0 rfl rfl (by decide) rfl ?_
  refine x_vp 4 [] (c_isFullOfFixtures ho) mX1_isFullOfFixtures kX5_75 dX5_readGame_1 rfl (lg_s ho) ⟨by decide, rfl⟩ rfl rfl (Nat.le_of_ble_eq_true rfl) (by decide) ?_
  refine x_ifeq_b 13 7 dX5_readGame_4 (by decide) rfl (fun h4 => ?_) (fun h4 => ?_)
  · refine x_aload_n 14 0 dX5_readGame_13 rfl rfl (by decide) rfl ?_
    refine x_iconst 15 dX5_readGame_14 rfl ?_
    refine x_vi 18 [_] (c_readNumber hT p hp hpn 4 (by omega)) mX5_readNumber kX5_62 dX5_readGame_15 rfl rfl ⟨by decide, rfl⟩ rfl rfl (Nat.le_of_ble_eq_true rfl) (by decide) (fun r1 M1 q1 => ?_)
    obtain ⟨a10, a13, rfl, a1b, a1g⟩ := q1
    refine x_ifne_b 23 21 dX5_readGame_18 (by decide) rfl (fun h18 => ?_) (fun h18 => ?_)
    · have hO : numO b n p 4 = 0 := by assumption
      obtain ⟨g1, g4, g5, g6⟩ := a1g hO
      have nz := numO_0 hO
      have vb := tkV_bd hpn.2 nz.1
      have hT1 := hT.keep a10
      refine x_aload_n 24 0 dX5_readGame_23 rfl rfl (by decide) rfl ?_
      refine x_getI 27 4 4 rfl dX5_readGame_24 rfl fX5_65 rfl rfl (fun g24 => ?_)
      rw [g4 nz.2.1]
      refine x_istore_n 28 2 _ dX5_readGame_27 rfl rfl (by decide) rfl rfl ?_
      refine x_aload_n 29 0 dX5_readGame_28 rfl rfl (by decide) rfl ?_
      refine x_iconst 30 dX5_readGame_29 rfl ?_
      refine x_vi 33 [_] (c_readNumber hT1 (tkE b n p) g1 (by omega) 4 (by omega)) mX5_readNumber kX5_62 dX5_readGame_30 rfl rfl ⟨by decide, rfl⟩ rfl rfl (Nat.le_of_ble_eq_true rfl) (by decide) (fun r2 M2 q2 => ?_)
      obtain ⟨a20, a23, rfl, a2b, a2g⟩ := q2
      refine x_ifne_b 38 36 dX5_readGame_33 (by decide) rfl (fun h33 => ?_) (fun h33 => ?_)
      · have hO2 : numO b n (tkE b n p) 4 = 0 := by assumption
        obtain ⟨k1, k4, k5, k6⟩ := a2g hO2
        have nz2 := numO_0 hO2
        have vb2 := tkV_bd hE.2 nz2.1
        have hT2 := hT1.keep a20
        refine x_aload_n 39 0 dX5_readGame_38 rfl rfl (by decide) rfl ?_
        refine x_getI 42 4 4 rfl dX5_readGame_39 rfl fX5_65 rfl rfl (fun g39 => ?_)
        rw [k4 nz2.2.1]
        refine x_istore_n 43 3 _ dX5_readGame_42 rfl rfl (by decide) rfl rfl ?_
        refine x_iload_n 44 2 dX5_readGame_43 rfl rfl (by decide) rfl ?_
        refine x_iload_n 45 3 dX5_readGame_44 rfl rfl (by decide) rfl ?_
        refine x_icmp_ne 54 48 dX5_readGame_45 (by decide) rfl (by omega) (fun h45 => ?_) (fun h45 => ?_)
        · refine x_aload_n 55 0 dX5_readGame_54 rfl rfl (by decide) rfl ?_
          refine x_vi 58 [] (c_readSign hT2 (tkE b n (tkE b n p)) k1 (by omega)) mX5_readSign kX5_68 dX5_readGame_55 rfl rfl ⟨by decide, rfl⟩ rfl rfl (Nat.le_of_ble_eq_true rfl) (by decide) (fun rs Ms qs => ?_)
          obtain ⟨s0_, s3, rfl, sb, sg⟩ := qs
          refine x_ifne_b 63 61 dX5_readGame_58 (by decide) rfl (fun h58 => ?_) (fun h58 => ?_)
          · have hO3 : sgnO b n (tkE b n (tkE b n p)) = 0 := by assumption
            obtain ⟨l1, -, l5, l6⟩ := sg hO3
            have hR3 : Rep Ms o d := hR.keep (fun a h1 h2 => ((s0_ a (by omega)).trans (a20 a (by omega))).trans (a10 a (by omega)))
            refine x_aload_n 64 1 dX5_readGame_63 rfl rfl (by decide) rfl ?_
            refine x_iload_n 65 2 dX5_readGame_64 rfl rfl (by decide) rfl ?_
            refine x_iload_n 66 3 dX5_readGame_65 rfl rfl (by decide) rfl ?_
            refine x_vi 69 [_, _] (c_addFixtureUnseen ho hR3 (by omega) _ _ (by omega) (by omega)) mX1_addFixtureUnseen kX5_78 dX5_readGame_66 rfl (lg_s ho) ⟨by decide, rfl⟩ rfl rfl (Nat.le_of_ble_eq_true rfl) (by decide) (fun r4 M4 q4 => ?_)
            obtain ⟨rfl, hR4, hF4⟩ := q4
            refine x_pop 70 dX5_readGame_69 rfl rfl ?_
            refine x_iconst 71 dX5_readGame_70 rfl ?_
            refine x_zret dX5_readGame_71 rfl (by first | exact Or.inl rfl | exact Or.inr rfl | exact bI_or _ | omega) ⟨rfl, Nat.le_refl _⟩ (qi_i ?_)
            have hres : lnG b n d s0 p = (0, 0, tkE b n (tkE b n (tkE b n p)), addF d (tkV b n p) (tkV b n (tkE b n p))) := by (unfold lnG; rw [if_neg (by omega), if_neg (by omega), if_neg (by omega), if_neg (by omega), if_neg (by omega)])
            rw [hres]
            have z1 : M4 1 = Ms 1 := hF4 1 (by omega)
            have hav : addV d (tkV b n p) (tkV b n (tkE b n p)) = addF d (tkV b n p) (tkV b n (tkE b n p)) := by (unfold addV; rw [if_neg (by omega)])
            rw [hav] at hR4
            refine ⟨rfl, fun a h1 h2 => (((hF4 a h2).trans (s0_ a h1)).trans (a20 a h1)).trans (a10 a h1), fun z => absurd rfl z, fun _ => ⟨?_, hR4, ?_, ?_⟩⟩
            · rw [z1]; exact l1
            · rw [z1, l5, k5]; exact g5
            · rw [z1, l6, k6]; exact g6
          · refine x_iconst 62 dX5_readGame_61 rfl ?_
            refine x_zret dX5_readGame_62 rfl (by first | exact Or.inl rfl | exact Or.inr rfl | exact bI_or _ | omega) ⟨rfl, Nat.le_refl _⟩ (qi_i ?_)
            have hO3 : sgnO b n (tkE b n (tkE b n p)) ≠ 0 := by assumption
            have hres : lnG b n d s0 p = (sgnO b n (tkE b n (tkE b n p)), tkS b n (tkE b n (tkE b n p)), 0, d) := by (unfold lnG; rw [if_neg (by omega), if_neg (by omega), if_neg (by omega), if_neg (by omega), if_pos hO3])
            rw [hres]
            exact ⟨(bI_f hO3).symm, fun a h1 _ => ((s0_ a h1).trans (a20 a h1)).trans (a10 a h1), fun _ => sb hO3, fun z => absurd z hO3⟩
        · refine x_aload_n 49 0 dX5_readGame_48 rfl rfl (by decide) rfl ?_
          refine x_iconst 50 dX5_readGame_49 rfl ?_
          refine x_vi 53 [_] (c_refuse _ (by omega)) mX5_refuse kX5_43 dX5_readGame_50 rfl rfl ⟨by decide, rfl⟩ rfl rfl (Nat.le_of_ble_eq_true rfl) (by decide) (fun r9 M9 q9 => ?_)
          obtain ⟨rfl, rfl⟩ := q9
          refine x_zret dX5_readGame_53 rfl (by first | exact Or.inl rfl | exact Or.inr rfl | exact bI_or _ | omega) ⟨rfl, Nat.le_refl _⟩ (qi_i ?_)
          have hres : lnG b n d s0 p = (3, tkS b n (tkE b n p), 0, d) := by (unfold lnG; rw [if_neg (by omega), if_neg (by omega), if_neg (by omega), if_pos (by omega)])
          rw [hres]
          refine ⟨rfl, fun a h1 _ => by rw [up2_o _ _ _ h1, up2_o _ _ _ h1]; exact (a20 a h1).trans (a10 a h1), fun _ => ⟨?_, ?_⟩, fun z => by (have z : (3 : Int) = 0 := z; omega)⟩
          · rw [up2_k _ _ _ (by omega), up2_s]
          · rw [up2_s]; exact a23
      · refine x_iconst 37 dX5_readGame_36 rfl ?_
        refine x_zret dX5_readGame_37 rfl (by first | exact Or.inl rfl | exact Or.inr rfl | exact bI_or _ | omega) ⟨rfl, Nat.le_refl _⟩ (qi_i ?_)
        have hO2 : numO b n (tkE b n p) 4 ≠ 0 := by assumption
        have hres : lnG b n d s0 p = (numO b n (tkE b n p) 4, tkS b n (tkE b n p), 0, d) := by (unfold lnG; rw [if_neg (by omega), if_neg (by omega), if_pos hO2])
        rw [hres]
        exact ⟨(bI_f hO2).symm, fun a h1 _ => (a20 a h1).trans (a10 a h1), fun _ => a2b hO2, fun z => absurd z hO2⟩
    · refine x_iconst 22 dX5_readGame_21 rfl ?_
      refine x_zret dX5_readGame_22 rfl (by first | exact Or.inl rfl | exact Or.inr rfl | exact bI_or _ | omega) ⟨rfl, Nat.le_refl _⟩ (qi_i ?_)
      have hO : numO b n p 4 ≠ 0 := by assumption
      have hres : lnG b n d s0 p = (numO b n p 4, tkS b n p, 0, d) := by (unfold lnG; rw [if_neg (by omega), if_pos hO])
      rw [hres]
      exact ⟨(bI_f hO).symm, fun a h1 _ => a10 a h1, fun _ => a1b hO, fun z => absurd z hO⟩
  · refine x_aload_n 8 0 dX5_readGame_7 rfl rfl (by decide) rfl ?_
    refine x_iconst 9 dX5_readGame_8 rfl ?_
    refine x_vi 12 [_] (c_refuse _ (by omega)) mX5_refuse kX5_43 dX5_readGame_9 rfl rfl ⟨by decide, rfl⟩ rfl rfl (Nat.le_of_ble_eq_true rfl) (by decide) (fun r9 M9 q9 => ?_)
    obtain ⟨rfl, rfl⟩ := q9
    refine x_zret dX5_readGame_12 rfl (by first | exact Or.inl rfl | exact Or.inr rfl | exact bI_or _ | omega) ⟨rfl, Nat.le_refl _⟩ (qi_i ?_)
    have hres : lnG b n d s0 p = (5, s0, 0, d) := by (unfold lnG; rw [if_pos (by omega)])
    rw [hres]
    refine ⟨rfl, fun a h1 _ => by rw [up2_o _ _ _ h1, up2_o _ _ _ h1], fun _ => ⟨?_, ?_⟩, fun z => by (have z : (5 : Int) = 0 := z; omega)⟩
    · rw [up2_k _ _ _ (by omega), up2_s]
    · rw [up2_s]; exact hs0

theorem xch0 : ∀ i, i < 5 → 0 < xlen.getD i 0 ∧ isLt (xch i ((0 : Nat) : Int)) = true := by decide +kernel
theorem spB_no {b : Int → Int} {s e : Int} {i : Nat} (hi : i < 5) (h : ¬ isLt (b s) = true) : ¬ spB b s e i = true := by
  obtain ⟨h1, h2⟩ := xch0 i hi
  have hz : b (s + ((0 : Nat) : Int)) ≠ xch i ((0 : Nat) : Int) := fun z => by
    rw [show s + ((0 : Nat) : Int) = s by omega] at z
    exact h (by rw [z]; exact h2)
  unfold spB
  rw [anyN_t (k := 0) h1 (decide_eq_true hz)]
  simp
theorem wordN_nl {b : Int → Int} {s e : Int} (h : ¬ isLt (b s) = true) : wordN b s e = -1 := by
  unfold wordN
  rw [if_neg (spB_no (by decide) h), if_neg (spB_no (by decide) h), if_neg (spB_no (by decide) h), if_neg (spB_no (by decide) h), if_neg (spB_no (by decide) h)]
theorem lnW_all {b : Int → Int} {n p : Int} (hk : tkK b n p ≠ 0) : wordN b (tkS b n p) (tkE b n p) = lnW b n p := by
  unfold lnW
  by_cases h : tkK b n p = 1
  · rw [if_pos h]
  · rw [if_neg h]
    refine wordN_nl (fun z => ?_)
    by_cases h2 : n ≤ tkS b n p
    · exact hk (by unfold tkK; rw [if_pos h2])
    · exact h (by unfold tkK; rw [if_neg h2, if_pos z])
