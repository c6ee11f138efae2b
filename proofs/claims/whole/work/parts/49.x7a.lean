set_option maxHeartbeats 4000000 in
theorem m_in {g : GG} {M : Mem} (x l h : Int) (hx : -9223372036854775808 ≤ x ∧ x ≤ 9223372036854775807) (hl : -9223372036854775808 ≤ l ∧ l ≤ 9223372036854775807) (hh : -9223372036854775808 ≤ h ∧ h ≤ 9223372036854775807) : CP g tX7_in 0 [jv x, jv l, jv h] M (bI (l ≤ x ∧ x ≤ h)) := by
  refine Con.of [some (jv x), none, some (jv l), none, some (jv h), none] (by decide +kernel) rfl (Nat.le_of_ble_eq_true rfl) ?_
  refine x_lload_n 1 0 dX7_in_0 rfl rfl (by decide) rfl ?_
  refine x_lload_n 2 2 dX7_in_1 rfl rfl (by decide) rfl ?_
  refine x_lcmp 3 dX7_in_2 rfl (by omega) (fun c2 hc2 => ?_)
  refine x_if_lt 17 6 dX7_in_3 (by decide) rfl (by omega) (fun h3 => ?_) (fun h3 => ?_)
  · refine x_iconst 18 dX7_in_17 rfl ?_
    refine x_zret dX7_in_18 rfl (by first | exact Or.inl rfl | exact Or.inr rfl | exact bI_or _ | omega) ⟨rfl, Nat.le_refl _⟩ (qp_i ?_ rfl)
    first | exact (bI_t (by omega)).symm | exact (bI_f (by omega)).symm
  · refine x_lload_n 7 0 dX7_in_6 rfl rfl (by decide) rfl ?_
    refine x_lload 9 4 dX7_in_7 rfl (by decide) rfl ?_
    refine x_lcmp 10 dX7_in_9 rfl (by omega) (fun c9 hc9 => ?_)
    refine x_if_gt 17 13 dX7_in_10 (by decide) rfl (by omega) (fun h10 => ?_) (fun h10 => ?_)
    · refine x_iconst 18 dX7_in_17 rfl ?_
      refine x_zret dX7_in_18 rfl (by first | exact Or.inl rfl | exact Or.inr rfl | exact bI_or _ | omega) ⟨rfl, Nat.le_refl _⟩ (qp_i ?_ rfl)
      first | exact (bI_t (by omega)).symm | exact (bI_f (by omega)).symm
    · refine x_iconst 14 dX7_in_13 rfl ?_
      refine x_goto 18 dX7_in_14 (by decide) ?_
      refine x_zret dX7_in_18 rfl (by first | exact Or.inl rfl | exact Or.inr rfl | exact bI_or _ | omega) ⟨rfl, Nat.le_refl _⟩ (qp_i ?_ rfl)
      first | exact (bI_t (by omega)).symm | exact (bI_f (by omega)).symm

set_option maxHeartbeats 4000000 in
theorem m_isTown {g : GG} {M : Mem} (n t : Int) (hn : M 50 1 = n) (hb : 0 ≤ n ∧ n ≤ 5) (ht : -2147483648 ≤ t ∧ t ≤ 2147483647) : CP g tX7_isTown 1 [rv g 50, iv t] M (bI (0 ≤ t ∧ t < n)) := by
  refine Con.of [some (rv g 50), some (iv t)] (by decide +kernel) rfl (Nat.le_of_ble_eq_true rfl) ?_
  refine x_iload_n 1 1 dX7_isTown_0 rfl rfl (by decide) rfl ?_
  refine x_i2l 2 dX7_isTown_1 rfl (by omega) ?_
  refine x_lconst 3 dX7_isTown_2 rfl 0 rfl ?_
  refine x_aload_n 4 0 dX7_isTown_3 rfl rfl (by decide) rfl ?_
  refine x_getI 7 1 1 rfl dX7_isTown_4 rfl fX7_125 rfl rfl (fun g4 => ?_)
  refine x_iconst 8 dX7_isTown_7 rfl ?_
  refine x_isub 9 dX7_isTown_8 rfl ?_
  refine x_i2l 10 dX7_isTown_9 rfl (by omega) ?_
  refine x_sp 13 [_, _, _] (m_in _ _ _ (by omega) (by omega) (by omega)) mX7_in kX7_53 dX7_isTown_10 rfl rfl rfl (Nat.le_of_ble_eq_true rfl) (by decide) ?_
  refine x_zret dX7_isTown_13 rfl (by first | exact Or.inl rfl | exact Or.inr rfl | exact bI_or _ | omega) ⟨rfl, Nat.le_refl _⟩ (qp_i ?_ rfl)
  exact bI_eq (by omega)

set_option maxHeartbeats 4000000 in
theorem m_isPair {g : GG} {M : Mem} (n a b : Int) (hn : M 50 1 = n) (hnb : 0 ≤ n ∧ n ≤ 5) (ha : -2147483648 ≤ a ∧ a ≤ 2147483647) (hb : -2147483648 ≤ b ∧ b ≤ 2147483647) : CP g tX7_isPair 2 [rv g 50, iv a, iv b] M (bI ((0 ≤ a ∧ a < n) ∧ (0 ≤ b ∧ b < n) ∧ a ≠ b)) := by
  refine Con.of [some (rv g 50), some (iv a), some (iv b)] (by decide +kernel) rfl (Nat.le_of_ble_eq_true rfl) ?_
  refine x_aload_n 1 0 dX7_isPair_0 rfl rfl (by decide) rfl ?_
  refine x_iload_n 2 1 dX7_isPair_1 rfl rfl (by decide) rfl ?_
  refine x_vp 5 [_] (m_isTown n _ hn hnb (by omega)) mX7_isTown kX7_131 dX7_isPair_2 rfl rfl ⟨by decide, rfl⟩ rfl rfl (Nat.le_of_ble_eq_true rfl) (by decide) ?_
  refine x_ifeq_b 25 8 dX7_isPair_5 (by decide) rfl (fun h5 => ?_) (fun h5 => ?_)
  · refine x_iconst 26 dX7_isPair_25 rfl ?_
    refine x_zret dX7_isPair_26 rfl (by first | exact Or.inl rfl | exact Or.inr rfl | exact bI_or _ | omega) ⟨rfl, Nat.le_refl _⟩ (qp_i ?_ rfl)
    first | exact (bI_t (by omega)).symm | exact (bI_f (by omega)).symm
  · refine x_aload_n 9 0 dX7_isPair_8 rfl rfl (by decide) rfl ?_
    refine x_iload_n 10 2 dX7_isPair_9 rfl rfl (by decide) rfl ?_
    refine x_vp 13 [_] (m_isTown n _ hn hnb (by omega)) mX7_isTown kX7_131 dX7_isPair_10 rfl rfl ⟨by decide, rfl⟩ rfl rfl (Nat.le_of_ble_eq_true rfl) (by decide) ?_
    refine x_ifeq_b 25 16 dX7_isPair_13 (by decide) rfl (fun h13 => ?_) (fun h13 => ?_)
    · refine x_iconst 26 dX7_isPair_25 rfl ?_
      refine x_zret dX7_isPair_26 rfl (by first | exact Or.inl rfl | exact Or.inr rfl | exact bI_or _ | omega) ⟨rfl, Nat.le_refl _⟩ (qp_i ?_ rfl)
      first | exact (bI_t (by omega)).symm | exact (bI_f (by omega)).symm
    · refine x_iload_n 17 1 dX7_isPair_16 rfl rfl (by decide) rfl ?_
      refine x_iload_n 18 2 dX7_isPair_17 rfl rfl (by decide) rfl ?_
      refine x_icmp_eq 25 21 dX7_isPair_18 (by decide) rfl (by omega) (fun h18 => ?_) (fun h18 => ?_)
      · refine x_iconst 26 dX7_isPair_25 rfl ?_
        refine x_zret dX7_isPair_26 rfl (by first | exact Or.inl rfl | exact Or.inr rfl | exact bI_or _ | omega) ⟨rfl, Nat.le_refl _⟩ (qp_i ?_ rfl)
        first | exact (bI_t (by omega)).symm | exact (bI_f (by omega)).symm
      · refine x_iconst 22 dX7_isPair_21 rfl ?_
        refine x_goto 26 dX7_isPair_22 (by decide) ?_
        refine x_zret dX7_isPair_26 rfl (by first | exact Or.inl rfl | exact Or.inr rfl | exact bI_or _ | omega) ⟨rfl, Nat.le_refl _⟩ (qp_i ?_ rfl)
        first | exact (bI_t (by omega)).symm | exact (bI_f (by omega)).symm

set_option maxHeartbeats 4000000 in
theorem m_isFixture {g : GG} {M : Mem} (f i : Int) (hf : M 51 40 = f) (hb : 0 ≤ f ∧ f ≤ 10) (hi : -2147483648 ≤ i ∧ i ≤ 2147483647) : CP g tX7_isFixture 1 [rv g 50, iv i] M (bI (0 ≤ i ∧ i < f)) := by
  refine Con.of [some (rv g 50), some (iv i)] (by decide +kernel) rfl (Nat.le_of_ble_eq_true rfl) ?_
  refine x_iload_n 1 1 dX7_isFixture_0 rfl rfl (by decide) rfl ?_
  refine x_i2l 2 dX7_isFixture_1 rfl (by omega) ?_
  refine x_lconst 3 dX7_isFixture_2 rfl 0 rfl ?_
  refine x_aload_n 4 0 dX7_isFixture_3 rfl rfl (by decide) rfl ?_
  refine x_getR 7 0 51 dX7_isFixture_4 rfl fX7_7 rfl rfl rfl ?_
  refine x_bipush 9 dX7_isFixture_7 rfl (by decide) ?_
  refine x_iaload 10 dX7_isFixture_9 rfl rfl (by omega) (fun g9 => ?_)
  refine x_iconst 11 dX7_isFixture_10 rfl ?_
  refine x_isub 12 dX7_isFixture_11 rfl ?_
  refine x_i2l 13 dX7_isFixture_12 rfl (by omega) ?_
  refine x_sp 16 [_, _, _] (m_in _ _ _ (by omega) (by omega) (by omega)) mX7_in kX7_53 dX7_isFixture_13 rfl rfl rfl (Nat.le_of_ble_eq_true rfl) (by decide) ?_
  refine x_zret dX7_isFixture_16 rfl (by first | exact Or.inl rfl | exact Or.inr rfl | exact bI_or _ | omega) ⟨rfl, Nat.le_refl _⟩ (qp_i ?_ rfl)
  exact bI_eq (by omega)

set_option maxHeartbeats 4000000 in
theorem m_playsOn {g : GG} {M : Mem} {p : Int} {v : LV} (hp : 0 ≤ p ∧ p ≤ 210) (hR : RP M p v) (hW : WF v) (t : Int) (ht : 0 ≤ t ∧ t < vn v) : CP g tX7_playsOn 0 [rv g 50, iv p, iv t] M (plays v t) := by
  refine Con.of [some (rv g 50), some (iv p), some (iv t), none, none, none] (by decide +kernel) rfl (Nat.le_of_ble_eq_true rfl) ?_
  have w1 := hW.1
  have w2 := hW.2.1
  have w3 := hW.2.2.1
  have e1 := hR.2.1
  have e40 := hR.2.2.1
  have e41 := hR.2.2.2.1
  have eKt : M 51 (p + t) = vK v t := hR.K ht.1 ht.2 rfl
  have eSt : M 51 (p + 5 + t) = vS v t := hR.S ht.1 ht.2 rfl
  have eLt : M 51 (p + 10 + t) = vL v t := hR.L ht.1 ht.2 rfl
  have ft := hW.2.2.2.1 t ht.1 ht.2
  have pb := pW_bd ft.2.1
  refine x_aload_n 1 0 dX7_playsOn_0 rfl rfl (by decide) rfl ?_
  refine x_getR 4 0 51 dX7_playsOn_1 rfl fX7_7 rfl rfl rfl ?_
  refine x_iload_n 5 1 dX7_playsOn_4 rfl rfl (by decide) rfl ?_
  refine x_iload_n 6 2 dX7_playsOn_5 rfl rfl (by decide) rfl ?_
  refine x_iadd 7 dX7_playsOn_6 rfl ?_
  refine x_iaload 8 dX7_playsOn_7 rfl rfl (by omega) (fun g7 => ?_)
  rw [eKt]
  refine x_istore_n 9 3 _ dX7_playsOn_8 rfl rfl (by decide) rfl rfl ?_
  refine x_aload_n 10 0 dX7_playsOn_9 rfl rfl (by decide) rfl ?_
  refine x_getR 13 0 51 dX7_playsOn_10 rfl fX7_7 rfl rfl rfl ?_
  refine x_iload_n 14 1 dX7_playsOn_13 rfl rfl (by decide) rfl ?_
  refine x_iconst 15 dX7_playsOn_14 rfl ?_
  refine x_iadd 16 dX7_playsOn_15 rfl ?_
  refine x_iload_n 17 2 dX7_playsOn_16 rfl rfl (by decide) rfl ?_
  refine x_iadd 18 dX7_playsOn_17 rfl ?_
  refine x_iaload 19 dX7_playsOn_18 rfl rfl (by omega) (fun g18 => ?_)
  rw [eSt]
  refine x_istore 21 4 _ dX7_playsOn_19 rfl (by decide) rfl rfl ?_
  refine x_cut 44 (fun z => z = pW v t) (fun tail21 => ?_) (fun z21 hz21 => ?_)
  · refine x_aload_n 22 0 dX7_playsOn_21 rfl rfl (by decide) rfl ?_
    refine x_getR 25 0 51 dX7_playsOn_22 rfl fX7_7 rfl rfl rfl ?_
    refine x_iload_n 26 1 dX7_playsOn_25 rfl rfl (by decide) rfl ?_
    refine x_bipush 28 dX7_playsOn_26 rfl (by decide) ?_
    refine x_iadd 29 dX7_playsOn_28 rfl ?_
    refine x_iload_n 30 2 dX7_playsOn_29 rfl rfl (by decide) rfl ?_
    refine x_iadd 31 dX7_playsOn_30 rfl ?_
    refine x_iaload 32 dX7_playsOn_31 rfl rfl (by omega) (fun g31 => ?_)
    rw [eLt]
    refine x_if_ne 42 35 dX7_playsOn_32 (by decide) rfl (by omega) (fun h32 => ?_) (fun h32 => ?_)
    · refine x_iload 44 4 dX7_playsOn_42 rfl (by decide) rfl ?_
      exact tail21 _ (by unfold pW; (repeat' split) <;> omega)
    · refine x_iload 37 4 dX7_playsOn_35 rfl (by decide) rfl ?_
      refine x_iconst 38 dX7_playsOn_37 rfl ?_
      refine x_idiv 39 dX7_playsOn_38 rfl (by omega) ?_
      refine x_goto 44 dX7_playsOn_39 (by decide) ?_
      exact tail21 _ (by unfold pW; (repeat' split) <;> omega)
  · subst z21
    refine x_istore 46 5 _ dX7_playsOn_44 rfl (by decide) rfl rfl ?_
    refine x_cut 91 (fun z => z = plays v t) (fun tail46 => ?_) (fun z46 hz46 => ?_)
    · refine x_iload_n 47 3 dX7_playsOn_46 rfl rfl (by decide) rfl ?_
      refine x_if_ne 55 50 dX7_playsOn_47 (by decide) rfl (by omega) (fun h47 => ?_) (fun h47 => ?_)
      · refine x_iload_n 56 3 dX7_playsOn_55 rfl rfl (by decide) rfl ?_
        refine x_iconst 57 dX7_playsOn_56 rfl ?_
        refine x_icmp_ne 67 60 dX7_playsOn_57 (by decide) rfl (by omega) (fun h57 => ?_) (fun h57 => ?_)
        · refine x_iload_n 68 3 dX7_playsOn_67 rfl rfl (by decide) rfl ?_
          refine x_iconst 69 dX7_playsOn_68 rfl ?_
          refine x_icmp_ne 77 72 dX7_playsOn_69 (by decide) rfl (by omega) (fun h69 => ?_) (fun h69 => ?_)
          · refine x_iload 79 5 dX7_playsOn_77 rfl (by decide) rfl ?_
            refine x_iconst 80 dX7_playsOn_79 rfl ?_
            refine x_icmp_le 90 83 dX7_playsOn_80 (by decide) rfl (by omega) (fun h80 => ?_) (fun h80 => ?_)
            · refine x_iconst 91 dX7_playsOn_90 rfl ?_
              exact tail46 _ (by unfold plays; (repeat' split) <;> omega)
            · refine x_iload 85 5 dX7_playsOn_83 rfl (by decide) rfl ?_
              refine x_iconst 86 dX7_playsOn_85 rfl ?_
              refine x_isub 87 dX7_playsOn_86 rfl ?_
              refine x_goto 91 dX7_playsOn_87 (by decide) ?_
              exact tail46 _ (by unfold plays; (repeat' split) <;> omega)
          · refine x_iload 74 5 dX7_playsOn_72 rfl (by decide) rfl ?_
            refine x_goto 91 dX7_playsOn_74 (by decide) ?_
            exact tail46 _ (by unfold plays; (repeat' split) <;> omega)
        · refine x_iload 62 4 dX7_playsOn_60 rfl (by decide) rfl ?_
          refine x_iconst 63 dX7_playsOn_62 rfl ?_
          refine x_iadd 64 dX7_playsOn_63 rfl ?_
          refine x_goto 91 dX7_playsOn_64 (by decide) ?_
          exact tail46 _ (by unfold plays; (repeat' split) <;> omega)
      · refine x_iload 52 4 dX7_playsOn_50 rfl (by decide) rfl ?_
        refine x_goto 91 dX7_playsOn_52 (by decide) ?_
        exact tail46 _ (by unfold plays; (repeat' split) <;> omega)
    · refine x_iret dX7_playsOn_91 rfl ⟨rfl, Nat.le_refl _⟩ (qp_i ?_ rfl)
      exact hz46

set_option maxHeartbeats 4000000 in
theorem m_gameOn {g : GG} {M : Mem} {p : Int} {v : LV} (hp : 0 ≤ p ∧ p ≤ 210) (hR : RP M p v) (hW : WF v) (a b : Int) (ha : 0 ≤ a ∧ a < vn v) (hb : 0 ≤ b ∧ b < vn v) : CP g tX7_gameOn 1 [rv g 50, iv p, iv a, iv b] M (weaker v a b) := by
  refine Con.of [some (rv g 50), some (iv p), some (iv a), some (iv b), none, none] (by decide +kernel) rfl (Nat.le_of_ble_eq_true rfl) ?_
  have w1 := hW.1
  have w2 := hW.2.1
  have w3 := hW.2.2.1
  have e1 := hR.2.1
  have e40 := hR.2.2.1
  have e41 := hR.2.2.2.1
  have fa_ := plays_bd (hW.2.2.2.1 a ha.1 ha.2).2.1
  have fb_ := plays_bd (hW.2.2.2.1 b hb.1 hb.2).2.1
  refine x_aload_n 1 0 dX7_gameOn_0 rfl rfl (by decide) rfl ?_
  refine x_iload_n 2 1 dX7_gameOn_1 rfl rfl (by decide) rfl ?_
  refine x_iload_n 3 2 dX7_gameOn_2 rfl rfl (by decide) rfl ?_
  refine x_vp 6 [_, _] (m_playsOn hp hR hW a ha) mX7_playsOn kX7_135 dX7_gameOn_3 rfl rfl ⟨by decide, rfl⟩ rfl rfl (Nat.le_of_ble_eq_true rfl) (by decide) ?_
  refine x_istore 8 4 _ dX7_gameOn_6 rfl (by decide) rfl rfl ?_
  refine x_aload_n 9 0 dX7_gameOn_8 rfl rfl (by decide) rfl ?_
  refine x_iload_n 10 1 dX7_gameOn_9 rfl rfl (by decide) rfl ?_
  refine x_iload_n 11 3 dX7_gameOn_10 rfl rfl (by decide) rfl ?_
  refine x_vp 14 [_, _] (m_playsOn hp hR hW b hb) mX7_playsOn kX7_135 dX7_gameOn_11 rfl rfl ⟨by decide, rfl⟩ rfl rfl (Nat.le_of_ble_eq_true rfl) (by decide) ?_
  refine x_istore 16 5 _ dX7_gameOn_14 rfl (by decide) rfl rfl ?_
  refine x_iload 18 4 dX7_gameOn_16 rfl (by decide) rfl ?_
  refine x_iload 20 5 dX7_gameOn_18 rfl (by decide) rfl ?_
  refine x_icmp_ge 27 23 dX7_gameOn_20 (by decide) rfl (by omega) (fun h20 => ?_) (fun h20 => ?_)
  · refine x_iload 29 5 dX7_gameOn_27 rfl (by decide) rfl ?_
    refine x_iload 31 4 dX7_gameOn_29 rfl (by decide) rfl ?_
    refine x_icmp_ge 38 34 dX7_gameOn_31 (by decide) rfl (by omega) (fun h31 => ?_) (fun h31 => ?_)
    · refine x_bipush 40 dX7_gameOn_38 rfl (by decide) ?_
      refine x_iret dX7_gameOn_40 rfl ⟨rfl, Nat.le_refl _⟩ (qp_i ?_ rfl)
      unfold weaker; (repeat' split) <;> omega
    · refine x_iload_n 35 3 dX7_gameOn_34 rfl rfl (by decide) rfl ?_
      refine x_goto 40 dX7_gameOn_35 (by decide) ?_
      refine x_iret dX7_gameOn_40 rfl ⟨rfl, Nat.le_refl _⟩ (qp_i ?_ rfl)
      unfold weaker; (repeat' split) <;> omega
  · refine x_iload_n 24 2 dX7_gameOn_23 rfl rfl (by decide) rfl ?_
    refine x_goto 40 dX7_gameOn_24 (by decide) ?_
    refine x_iret dX7_gameOn_40 rfl ⟨rfl, Nat.le_refl _⟩ (qp_i ?_ rfl)
    unfold weaker; (repeat' split) <;> omega

set_option maxHeartbeats 4000000 in
theorem m_placeOn {g : GG} {M : Mem} {p : Int} {v : LV} (hp : 0 ≤ p ∧ p ≤ 210) (hR : RP M p v) (hW : WF v) : CP g tX7_placeOn 0 [rv g 50, iv p] M (fixN v) := by
  refine Con.of [some (rv g 50), some (iv p)] (by decide +kernel) rfl (Nat.le_of_ble_eq_true rfl) ?_
  have w1 := hW.1
  have w2 := hW.2.1
  have w3 := hW.2.2.1
  have e1 := hR.2.1
  have e40 := hR.2.2.1
  have e41 := hR.2.2.2.1
  refine x_aload_n 1 0 dX7_placeOn_0 rfl rfl (by decide) rfl ?_
  refine x_getR 4 0 51 dX7_placeOn_1 rfl fX7_7 rfl rfl rfl ?_
  refine x_iload_n 5 1 dX7_placeOn_4 rfl rfl (by decide) rfl ?_
  refine x_bipush 7 dX7_placeOn_5 rfl (by decide) ?_
  refine x_iadd 8 dX7_placeOn_7 rfl ?_
  refine x_iaload 9 dX7_placeOn_8 rfl rfl (by omega) (fun g8 => ?_)
  rw [e40]
  refine x_if_ne 17 12 dX7_placeOn_9 (by decide) rfl (by omega) (fun h9 => ?_) (fun h9 => ?_)
  · refine x_aload_n 18 0 dX7_placeOn_17 rfl rfl (by decide) rfl ?_
    refine x_getR 21 0 51 dX7_placeOn_18 rfl fX7_7 rfl rfl rfl ?_
    refine x_iload_n 22 1 dX7_placeOn_21 rfl rfl (by decide) rfl ?_
    refine x_bipush 24 dX7_placeOn_22 rfl (by decide) ?_
    refine x_iadd 25 dX7_placeOn_24 rfl ?_
    refine x_iaload 26 dX7_placeOn_25 rfl rfl (by omega) (fun g25 => ?_)
    rw [e41]
    refine x_aload_n 27 0 dX7_placeOn_26 rfl rfl (by decide) rfl ?_
    refine x_getR 30 0 51 dX7_placeOn_27 rfl fX7_7 rfl rfl rfl ?_
    refine x_iload_n 31 1 dX7_placeOn_30 rfl rfl (by decide) rfl ?_
    refine x_bipush 33 dX7_placeOn_31 rfl (by decide) ?_
    refine x_iadd 34 dX7_placeOn_33 rfl ?_
    refine x_iaload 35 dX7_placeOn_34 rfl rfl (by omega) (fun g34 => ?_)
    rw [e40]
    refine x_irem 36 dX7_placeOn_35 rfl (by omega) ?_
    refine x_iret dX7_placeOn_36 rfl ⟨rfl, Nat.le_refl _⟩ (qp_i ?_ rfl)
    unfold fixN; first | rw [if_pos (by omega)] | rw [if_neg (by omega)]
  · refine x_bipush 14 dX7_placeOn_12 rfl (by decide) ?_
    refine x_goto 36 dX7_placeOn_14 (by decide) ?_
    refine x_iret dX7_placeOn_36 rfl ⟨rfl, Nat.le_refl _⟩ (qp_i ?_ rfl)
    unfold fixN; first | rw [if_pos (by omega)] | rw [if_neg (by omega)]

theorem weaker_l {v : LV} {a b : Int} (ha : 0 ≤ a) (hb : 0 ≤ b) : (weaker v a b = -4 ∧ game v a b = v) ∨ (weaker v a b = a ∧ game v a b = beat v a b) ∨ (weaker v a b = b ∧ game v a b = beat v b a) := by
  unfold weaker game
  by_cases h1 : plays v a < plays v b
  · rw [if_pos h1, if_pos h1]; exact Or.inr (Or.inl ⟨rfl, rfl⟩)
  · rw [if_neg h1, if_neg h1]
    by_cases h2 : plays v b < plays v a
    · rw [if_pos h2, if_pos h2]; exact Or.inr (Or.inr ⟨rfl, rfl⟩)
    · rw [if_neg h2, if_neg h2]; exact Or.inl ⟨rfl, rfl⟩
/-- a game played on page p -/
def PdM (p : Int) (v v2 : LV) (l : Int) (c : Prop) [Decidable c] (M M2 : Mem) : Prop := M2 50 16 = l ∧ M2 50 17 = (if 0 ≤ l then wr (M 50 17 + 1) else M 50 17) ∧ M2 50 18 = (if c then wr (M 50 18 + 1) else M 50 18) ∧ RP M2 p v2 ∧ FP p M M2
theorem RP_yr {M : Mem} {p : Int} {v : LV} {i x x1 x2 : Int} (h : RP M p (yr v i)) (hi : 0 ≤ i ∧ i < 5) (hx : x = if vL v i = 0 then min 99 (vO v i + 1) else vO v i) (e1 : x1 = p + 15 + i) (e2 : x2 = p + 10 + i) : RP (up2 (up2 M 51 x1 x) 51 x2 0) p (yr v (i + 1)) := by
  refine RP.ext (RP_L (RP_O h i x x1 hi e1) i 0 x2 hi e2) rfl rfl rfl (fun t a b => ⟨rfl, rfl, ?_, ?_⟩) (fun _ _ _ => ⟨rfl, rfl⟩)
  · show (if t < i + 1 then 0 else vL v t) = if t = i then 0 else if t < i then 0 else vL v t
    repeat' split
    all_goals first | rfl | omega
  · show (if t < i + 1 then (if vL v t = 0 then min 99 (vO v t + 1) else vO v t) else vO v t) = if t = i then x else if t < i then (if vL v t = 0 then min 99 (vO v t + 1) else vO v t) else vO v t
    by_cases e : t = i
    · subst e; rw [if_pos (by omega), if_pos rfl, hx]
    · rw [if_neg e]
      by_cases e2 : t < i
      · rw [if_pos (by omega), if_pos e2]
      · rw [if_neg (by omega), if_neg e2]
theorem RP_yr0 {M : Mem} {p : Int} {v : LV} (h : RP M p v) : RP M p (yr v 0) :=
  RP.ext h rfl rfl rfl (fun t a _ => ⟨rfl, rfl, if_neg (by omega), if_neg (by omega)⟩) (fun _ _ _ => ⟨rfl, rfl⟩)
theorem RP_yrE {M : Mem} {p : Int} {v : LV} {i : Int} (h : RP M p (yr v i)) (hi : vn v ≤ i) : RP M p (yearEnd v) :=
  RP.ext h rfl rfl rfl (fun t _ b => ⟨rfl, rfl, (if_pos (show t < i from Int.lt_of_lt_of_le b hi)).symm, (if_pos (show t < i from Int.lt_of_lt_of_le b hi)).symm⟩) (fun _ _ _ => ⟨rfl, rfl⟩)

set_option maxHeartbeats 4000000 in
theorem m_playedOn {g : GG} {M : Mem} {p : Int} {v : LV} (hp : 0 ≤ p ∧ p ≤ 210) (hR : RP M p v) (hW : WF v) (a b : Int) (ha : 0 ≤ a ∧ a < vn v) (hb : 0 ≤ b ∧ b < vn v) (hne : a ≠ b) : CV g tX7_playedOn 2 [rv g 50, iv p, iv a, iv b] M (PdM p v (game v a b) (weaker v a b) (weaker v a b = -4) M) := by
  refine Con.of [some (rv g 50), some (iv p), some (iv a), some (iv b), none, none, none] (by decide +kernel) rfl (Nat.le_of_ble_eq_true rfl) ?_
  have w1 := hW.1
  refine x_aload_n 1 0 dX7_playedOn_0 rfl rfl (by decide) rfl ?_
  refine x_aload_n 2 0 dX7_playedOn_1 rfl rfl (by decide) rfl ?_
  refine x_iload_n 3 1 dX7_playedOn_2 rfl rfl (by decide) rfl ?_
  refine x_iload_n 4 2 dX7_playedOn_3 rfl rfl (by decide) rfl ?_
  refine x_iload_n 5 3 dX7_playedOn_4 rfl rfl (by decide) rfl ?_
  refine x_vp 8 [_, _, _] (m_gameOn hp hR hW a b ha hb) mX7_gameOn kX7_138 dX7_playedOn_5 rfl rfl ⟨by decide, rfl⟩ rfl rfl (Nat.le_of_ble_eq_true rfl) (by decide) ?_
  have wi := weaker_in (v := v) (a := a) (b := b)
  refine x_putI 11 16 16 rfl dX7_playedOn_8 rfl fX7_142 rfl rfl rfl (by omega) ?_
  refine x_mem (fun M1 => M1 50 16 = weaker v a b ∧ RP M1 p v ∧ FP p M M1 ∧ M1 50 17 = M 50 17 ∧ M1 50 18 = M 50 18) ⟨up2_s _ _ _ _, hR.up0 _ _ (by omega), (FP.rf p M).up0 _ _ (by omega), up2_k _ _ _ (by omega), up2_k _ _ _ (by omega)⟩ (fun M1 hM1 => ?_)
  clear hR
  obtain ⟨u16, hR, hF1, u17, u18⟩ := hM1
  refine x_aload_n 12 0 dX7_playedOn_11 rfl rfl (by decide) rfl ?_
  refine x_getI 15 16 16 rfl dX7_playedOn_12 rfl fX7_142 rfl rfl (fun g12 => ?_)
  rw [u16]
  refine x_bipush 17 dX7_playedOn_15 rfl (by decide) ?_
  refine x_icmp_ne 31 20 dX7_playedOn_17 (by decide) rfl (by omega) (fun h17 => ?_) (fun h17 => ?_)
  · have hex : ∃ l wn : Int, weaker v a b = l ∧ game v a b = beat v l wn ∧ (0 ≤ l ∧ l < vn v) ∧ (0 ≤ wn ∧ wn < vn v) ∧ l ≠ wn ∧ ((l = a ∧ wn = b) ∨ (l = b ∧ wn = a)) := by
      rcases weaker_l (v := v) ha.1 hb.1 with q | q | q
      · exact absurd q.1 (by omega)
      · exact ⟨a, b, q.1, q.2, ha, hb, hne, Or.inl ⟨rfl, rfl⟩⟩
      · exact ⟨b, a, q.1, q.2, hb, ha, Ne.symm hne, Or.inr ⟨rfl, rfl⟩⟩
    obtain ⟨l, wn, hwl, hgm, hl, hw, hlw, hor⟩ := hex
    rw [hwl] at u16
    have eKl : M1 51 (p + l) = vK v l := hR.K hl.1 hl.2 rfl
    have eSl : M1 51 (p + 5 + l) = vS v l := hR.S hl.1 hl.2 rfl
    have eLl : M1 51 (p + 10 + l) = vL v l := hR.L hl.1 hl.2 rfl
    have fl := hW.2.2.2.1 l hl.1 hl.2
    have fw := hW.2.2.2.1 wn hw.1 hw.2
    have tb_ := trains_bd v l
    refine x_cut 44 (fun z => z = wn) (fun tail31 => ?_) (fun z31 hz31 => ?_)
    · refine x_aload_n 32 0 dX7_playedOn_31 rfl rfl (by decide) rfl ?_
      refine x_getI 35 16 16 rfl dX7_playedOn_32 rfl fX7_142 rfl rfl (fun g32 => ?_)
      rw [u16]
      refine x_iload_n 36 2 dX7_playedOn_35 rfl rfl (by decide) rfl ?_
      refine x_icmp_ne 43 39 dX7_playedOn_36 (by decide) rfl (by omega) (fun h36 => ?_) (fun h36 => ?_)
      · refine x_iload_n 44 2 dX7_playedOn_43 rfl rfl (by decide) rfl ?_
        exact tail31 _ (by omega)
      · refine x_iload_n 40 3 dX7_playedOn_39 rfl rfl (by decide) rfl ?_
        refine x_goto 44 dX7_playedOn_40 (by decide) ?_
        exact tail31 _ (by omega)
    · subst z31
      refine x_istore 46 4 _ dX7_playedOn_44 rfl (by decide) rfl rfl ?_
      refine x_aload_n 47 0 dX7_playedOn_46 rfl rfl (by decide) rfl ?_
      refine x_getR 50 0 51 dX7_playedOn_47 rfl fX7_7 rfl rfl rfl ?_
      refine x_iload_n 51 1 dX7_playedOn_50 rfl rfl (by decide) rfl ?_
      refine x_aload_n 52 0 dX7_playedOn_51 rfl rfl (by decide) rfl ?_
      refine x_getI 55 16 16 rfl dX7_playedOn_52 rfl fX7_142 rfl rfl (fun g52 => ?_)
      rw [u16]
      refine x_iadd 56 dX7_playedOn_55 rfl ?_
      refine x_iaload 57 dX7_playedOn_56 rfl rfl (by omega) (fun g56 => ?_)
      rw [eKl]
      refine x_istore 59 5 _ dX7_playedOn_57 rfl (by decide) rfl rfl ?_
      refine x_aload_n 60 0 dX7_playedOn_59 rfl rfl (by decide) rfl ?_
      refine x_getR 63 0 51 dX7_playedOn_60 rfl fX7_7 rfl rfl rfl ?_
      refine x_iload_n 64 1 dX7_playedOn_63 rfl rfl (by decide) rfl ?_
      refine x_iconst 65 dX7_playedOn_64 rfl ?_
      refine x_iadd 66 dX7_playedOn_65 rfl ?_
      refine x_aload_n 67 0 dX7_playedOn_66 rfl rfl (by decide) rfl ?_
      refine x_getI 70 16 16 rfl dX7_playedOn_67 rfl fX7_142 rfl rfl (fun g67 => ?_)
      rw [u16]
      refine x_iadd 71 dX7_playedOn_70 rfl ?_
      refine x_iaload 72 dX7_playedOn_71 rfl rfl (by omega) (fun g71 => ?_)
      rw [eSl]
      refine x_cut 93 (fun z => z = trains v l) (fun tail72 => ?_) (fun z72 hz72 => ?_)
      · refine x_iload 74 5 dX7_playedOn_72 rfl (by decide) rfl ?_
        refine x_iconst 75 dX7_playedOn_74 rfl ?_
        refine x_icmp_ne 82 78 dX7_playedOn_75 (by decide) rfl (by omega) (fun h75 => ?_) (fun h75 => ?_)
        · refine x_iload 84 5 dX7_playedOn_82 rfl (by decide) rfl ?_
          refine x_iconst 85 dX7_playedOn_84 rfl ?_
          refine x_icmp_ne 92 88 dX7_playedOn_85 (by decide) rfl (by omega) (fun h85 => ?_) (fun h85 => ?_)
          · refine x_iconst 93 dX7_playedOn_92 rfl ?_
            exact tail72 _ (by unfold trains; (repeat' split) <;> omega)
          · refine x_iconst 89 dX7_playedOn_88 rfl ?_
            refine x_goto 93 dX7_playedOn_89 (by decide) ?_
            exact tail72 _ (by unfold trains; (repeat' split) <;> omega)
        · refine x_iconst 79 dX7_playedOn_78 rfl ?_
          refine x_goto 93 dX7_playedOn_79 (by decide) ?_
          exact tail72 _ (by unfold trains; (repeat' split) <;> omega)
      · subst z72
        refine x_iadd 94 dX7_playedOn_93 rfl ?_
        refine x_istore 96 6 _ dX7_playedOn_94 rfl (by decide) rfl rfl ?_
        refine x_aload_n 97 0 dX7_playedOn_96 rfl rfl (by decide) rfl ?_
        refine x_getR 100 0 51 dX7_playedOn_97 rfl fX7_7 rfl rfl rfl ?_
        refine x_iload_n 101 1 dX7_playedOn_100 rfl rfl (by decide) rfl ?_
        refine x_bipush 103 dX7_playedOn_101 rfl (by decide) ?_
        refine x_iadd 104 dX7_playedOn_103 rfl ?_
        refine x_aload_n 105 0 dX7_playedOn_104 rfl rfl (by decide) rfl ?_
        refine x_getI 108 16 16 rfl dX7_playedOn_105 rfl fX7_142 rfl rfl (fun g105 => ?_)
        rw [u16]
        refine x_iadd 109 dX7_playedOn_108 rfl ?_
        refine x_dup2 110 dX7_playedOn_109 rfl rfl rfl ?_
        refine x_iaload 111 dX7_playedOn_110 rfl rfl (by omega) (fun g110 => ?_)
        rw [eLl]
        refine x_cut 135 (fun z => vL v l + z = min 99 (vL v l + 1)) (fun tail111 => ?_) (fun z111 hz111 => ?_)
        · refine x_aload_n 112 0 dX7_playedOn_111 rfl rfl (by decide) rfl ?_
          refine x_getR 115 0 51 dX7_playedOn_112 rfl fX7_7 rfl rfl rfl ?_
          refine x_iload_n 116 1 dX7_playedOn_115 rfl rfl (by decide) rfl ?_
          refine x_bipush 118 dX7_playedOn_116 rfl (by decide) ?_
          refine x_iadd 119 dX7_playedOn_118 rfl ?_
          refine x_aload_n 120 0 dX7_playedOn_119 rfl rfl (by decide) rfl ?_
          refine x_getI 123 16 16 rfl dX7_playedOn_120 rfl fX7_142 rfl rfl (fun g120 => ?_)
          rw [u16]
          refine x_iadd 124 dX7_playedOn_123 rfl ?_
          refine x_iaload 125 dX7_playedOn_124 rfl rfl (by omega) (fun g124 => ?_)
          rw [eLl]
          refine x_bipush 127 dX7_playedOn_125 rfl (by decide) ?_
          refine x_icmp_ge 134 130 dX7_playedOn_127 (by decide) rfl (by omega) (fun h127 => ?_) (fun h127 => ?_)
          · refine x_iconst 135 dX7_playedOn_134 rfl ?_
            exact tail111 _ (by omega)
          · refine x_iconst 131 dX7_playedOn_130 rfl ?_
            refine x_goto 135 dX7_playedOn_131 (by decide) ?_
            exact tail111 _ (by omega)
        · refine x_iadd 136 dX7_playedOn_135 rfl ?_
          rw [hz111]
          refine x_iastore 137 dX7_playedOn_136 rfl rfl (by omega) (by omega) ?_
          refine x_mem (fun M2 => M2 50 16 = l ∧ RP M2 p (setL v (fu (vL v) l (min 99 (vL v l + 1)))) ∧ FP p M M2 ∧ M2 50 17 = M 50 17 ∧ M2 50 18 = M 50 18) ⟨by rw [up2_o _ _ _ (by omega)]; exact u16, RP_L hR l _ _ (by omega) rfl, hF1.up1 _ _ (by omega), by rw [up2_o _ _ _ (by omega)]; exact u17, by rw [up2_o _ _ _ (by omega)]; exact u18⟩ (fun M2 hM2 => ?_)
          clear u16 hF1 u17 u18
          obtain ⟨u16, hR2, hF1, u17, u18⟩ := hM2
          refine x_aload_n 138 0 dX7_playedOn_137 rfl rfl (by decide) rfl ?_
          refine x_getR 141 0 51 dX7_playedOn_138 rfl fX7_7 rfl rfl rfl ?_
          refine x_iload_n 142 1 dX7_playedOn_141 rfl rfl (by decide) rfl ?_
          refine x_iconst 143 dX7_playedOn_142 rfl ?_
          refine x_iadd 144 dX7_playedOn_143 rfl ?_
          refine x_aload_n 145 0 dX7_playedOn_144 rfl rfl (by decide) rfl ?_
          refine x_getI 148 16 16 rfl dX7_playedOn_145 rfl fX7_142 rfl rfl (fun g145 => ?_)
          rw [u16]
          refine x_iadd 149 dX7_playedOn_148 rfl ?_
          refine x_cut 163 (fun z => z = min 20 (vS v l + trains v l)) (fun tail149 => ?_) (fun z149 hz149 => ?_)
          · refine x_iload 151 6 dX7_playedOn_149 rfl (by decide) rfl ?_
            refine x_bipush 153 dX7_playedOn_151 rfl (by decide) ?_
            refine x_icmp_le 161 156 dX7_playedOn_153 (by decide) rfl (by omega) (fun h153 => ?_) (fun h153 => ?_)
            · refine x_iload 163 6 dX7_playedOn_161 rfl (by decide) rfl ?_
              exact tail149 _ (by omega)
            · refine x_bipush 158 dX7_playedOn_156 rfl (by decide) ?_
              refine x_goto 163 dX7_playedOn_158 (by decide) ?_
              exact tail149 _ (by omega)
          · rw [hz149]
            refine x_iastore 164 dX7_playedOn_163 rfl rfl (by omega) (by omega) ?_
            refine x_mem (fun M2 => M2 50 16 = l ∧ RP M2 p (setS (setL v (fu (vL v) l (min 99 (vL v l + 1)))) (fu (vS v) l (min 20 (vS v l + trains v l)))) ∧ FP p M M2 ∧ M2 50 17 = M 50 17 ∧ M2 50 18 = M 50 18) ⟨by rw [up2_o _ _ _ (by omega)]; exact u16, RP_S hR2 l _ _ (by omega) rfl, hF1.up1 _ _ (by omega), by rw [up2_o _ _ _ (by omega)]; exact u17, by rw [up2_o _ _ _ (by omega)]; exact u18⟩ (fun M3 hM3 => ?_)
            clear u16 hF1 u17 u18
            obtain ⟨u16, hR3, hF1, u17, u18⟩ := hM3
            have eSw : M3 51 (p + 5 + wn) = vS v wn := (hR3.S hw.1 hw.2 rfl).trans (fu_n _ _ (Ne.symm hlw))
            refine x_aload_n 165 0 dX7_playedOn_164 rfl rfl (by decide) rfl ?_
            refine x_getR 168 0 51 dX7_playedOn_165 rfl fX7_7 rfl rfl rfl ?_
            refine x_iload_n 169 1 dX7_playedOn_168 rfl rfl (by decide) rfl ?_
            refine x_iconst 170 dX7_playedOn_169 rfl ?_
            refine x_iadd 171 dX7_playedOn_170 rfl ?_
            refine x_iload 173 4 dX7_playedOn_171 rfl (by decide) rfl ?_
            refine x_iadd 174 dX7_playedOn_173 rfl ?_
            refine x_dup2 175 dX7_playedOn_174 rfl rfl rfl ?_
            refine x_iaload 176 dX7_playedOn_175 rfl rfl (by omega) (fun g175 => ?_)
            rw [eSw]
            refine x_cut 195 (fun z => vS v wn - z = max 0 (vS v wn - 1)) (fun tail176 => ?_) (fun z176 hz176 => ?_)
            · refine x_aload_n 177 0 dX7_playedOn_176 rfl rfl (by decide) rfl ?_
              refine x_getR 180 0 51 dX7_playedOn_177 rfl fX7_7 rfl rfl rfl ?_
              refine x_iload_n 181 1 dX7_playedOn_180 rfl rfl (by decide) rfl ?_
              refine x_iconst 182 dX7_playedOn_181 rfl ?_
              refine x_iadd 183 dX7_playedOn_182 rfl ?_
              refine x_iload 185 4 dX7_playedOn_183 rfl (by decide) rfl ?_
              refine x_iadd 186 dX7_playedOn_185 rfl ?_
              refine x_iaload 187 dX7_playedOn_186 rfl rfl (by omega) (fun g186 => ?_)
              rw [eSw]
              refine x_if_le 194 190 dX7_playedOn_187 (by decide) rfl (by omega) (fun h187 => ?_) (fun h187 => ?_)
              · refine x_iconst 195 dX7_playedOn_194 rfl ?_
                exact tail176 _ (by omega)
              · refine x_iconst 191 dX7_playedOn_190 rfl ?_
                refine x_goto 195 dX7_playedOn_191 (by decide) ?_
                exact tail176 _ (by omega)
            · refine x_isub 196 dX7_playedOn_195 rfl ?_
              rw [hz176]
              refine x_iastore 197 dX7_playedOn_196 rfl rfl (by omega) (by omega) ?_
              refine x_mem (fun M2 => M2 50 16 = l ∧ RP M2 p (beat v l wn) ∧ FP p M M2 ∧ M2 50 17 = M 50 17 ∧ M2 50 18 = M 50 18) ⟨by rw [up2_o _ _ _ (by omega)]; exact u16, RP_S hR3 wn _ _ (by omega) rfl, hF1.up1 _ _ (by omega), by rw [up2_o _ _ _ (by omega)]; exact u17, by rw [up2_o _ _ _ (by omega)]; exact u18⟩ (fun M4 hM4 => ?_)
              clear u16 hF1 u17 u18
              obtain ⟨u16, hR4, hF1, u17, u18⟩ := hM4
              refine x_aload_n 198 0 dX7_playedOn_197 rfl rfl (by decide) rfl ?_
              refine x_dup 199 dX7_playedOn_198 rfl rfl ?_
              refine x_getI 202 17 17 rfl dX7_playedOn_199 rfl fX7_148 rfl rfl (fun g199 => ?_)
              refine x_iconst 203 dX7_playedOn_202 rfl ?_
              refine x_iadd 204 dX7_playedOn_203 rfl ?_
              refine x_cv (wr_of _) ?_
              refine x_putI 207 17 17 rfl dX7_playedOn_204 rfl fX7_148 rfl rfl rfl (wr_rng _) ?_
              refine x_vret dX7_playedOn_207 rfl ⟨rfl, Nat.le_refl _⟩ (qv_i ?_)
              refine ⟨(up2_k _ _ _ (by omega)).trans (u16.trans hwl.symm), ?_, ?_, ?_, hF1.up0 _ _ (by omega)⟩
              · rw [if_pos (by omega), up2_s, u17]
              · rw [if_neg (by omega), up2_k _ _ _ (by omega)]; exact u18
              · rw [hgm]; exact hR4.up0 _ _ (by omega)
  · refine x_aload_n 21 0 dX7_playedOn_20 rfl rfl (by decide) rfl ?_
    refine x_dup 22 dX7_playedOn_21 rfl rfl ?_
    refine x_getI 25 18 18 rfl dX7_playedOn_22 rfl fX7_145 rfl rfl (fun g22 => ?_)
    refine x_iconst 26 dX7_playedOn_25 rfl ?_
    refine x_iadd 27 dX7_playedOn_26 rfl ?_
    refine x_cv (wr_of _) ?_
    refine x_putI 30 18 18 rfl dX7_playedOn_27 rfl fX7_145 rfl rfl rfl (wr_rng _) ?_
    refine x_vret dX7_playedOn_30 rfl ⟨rfl, Nat.le_refl _⟩ (qv_i ?_)
    rcases weaker_l (v := v) ha.1 hb.1 with q | q | q
    · refine ⟨(up2_k _ _ _ (by omega)).trans u16, ?_, ?_, ?_, hF1.up0 _ _ (by omega)⟩
      · rw [if_neg (by omega), up2_k _ _ _ (by omega)]; exact u17
      · rw [if_pos q.1, up2_s, u18]
      · rw [q.2]; exact hR.up0 _ _ (by omega)
    · exfalso; omega
    · exfalso; omega
