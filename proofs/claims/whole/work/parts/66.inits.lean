set_option maxHeartbeats 4000000 in
theorem i_X4 {g : GG} {sh : List Shp} {rf : Nat → Nat → Option Nat} {M : Mem} {i n : Nat} (hs : sh[i]? = some (.inl 4)) (hn : sh.length = n) (hz : Zr sh rf M) : Con g tX4_init 1 1 160 [rv g i] (sh, rf, M) (fun v hp => v = none ∧ hp = ((sh ++ [.inr (1, 160)]), (upr rf i 0 (some (n))), M) ∧ Zr hp.1 hp.2.1 hp.2.2) := by
  refine Con.of [some (rv g i)] (by decide +kernel) rfl (Nat.le_of_ble_eq_true rfl) ?_
  refine x_aload_n 1 0 dX4_init_0 rfl rfl (by decide) rfl ?_
  refine x_obj 4 dX4_init_1 rfl (xm 34 (by decide +kernel) (by decide +kernel)) (Nat.le_of_ble_eq_true rfl) (Nat.le_of_ble_eq_true rfl) ?_
  refine x_aload_n 5 0 dX4_init_4 rfl rfl (by decide) rfl ?_
  refine x_sipush 8 dX4_init_5 rfl (by decide) ?_
  refine x_newB 10 (N := 160) hn rfl (by decide) hz ⟨Nat.le_of_ble_eq_true rfl, Nat.le_of_ble_eq_true rfl⟩ dX4_init_8 rfl ?_
  have hz1 := hz.push (.inr (1, 160))
  refine x_putR 13 0 dX4_init_10 rfl fX4_7 (by decide +kernel) (by decide +kernel) (by decide +kernel) (by decide +kernel) (gp hs _) ?_
  have hz2 := hz1.upr (glt (gp hs _)) 0 (some (n))
  refine x_vret dX4_init_13 rfl ⟨rfl, Nat.le_of_ble_eq_true rfl⟩ ?_
  exact ⟨rfl, rfl, hz2⟩

set_option maxHeartbeats 4000000 in
theorem i_X1 {g : GG} {sh : List Shp} {rf : Nat → Nat → Option Nat} {M : Mem} {i n : Nat} (hs : sh[i]? = some (.inl 1)) (hn : sh.length = n) (hz : Zr sh rf M) : Con g tX1_init 1 6 40 [rv g i] (sh, rf, M) (fun v hp => v = none ∧ hp = (((((((sh ++ [.inr (0, 5)]) ++ [.inr (0, 5)]) ++ [.inr (0, 5)]) ++ [.inr (0, 5)]) ++ [.inr (0, 10)]) ++ [.inr (0, 10)]), (upr (upr (upr (upr (upr (upr rf i 0 (some (n))) i 1 (some (n + 1))) i 2 (some (n + 1 + 1))) i 3 (some (n + 1 + 1 + 1))) i 4 (some (n + 1 + 1 + 1 + 1))) i 5 (some (n + 1 + 1 + 1 + 1 + 1))), M) ∧ Zr hp.1 hp.2.1 hp.2.2) := by
  refine Con.of [some (rv g i)] (by decide +kernel) rfl (Nat.le_of_ble_eq_true rfl) ?_
  refine x_aload_n 1 0 dX1_init_0 rfl rfl (by decide) rfl ?_
  refine x_obj 4 dX1_init_1 rfl (xm 75 (by decide +kernel) (by decide +kernel)) (Nat.le_of_ble_eq_true rfl) (Nat.le_of_ble_eq_true rfl) ?_
  refine x_aload_n 5 0 dX1_init_4 rfl rfl (by decide) rfl ?_
  refine x_iconst 6 dX1_init_5 rfl ?_
  refine x_newI 8 (N := 5) hn rfl (by decide) hz ⟨Nat.le_of_ble_eq_true rfl, Nat.le_of_ble_eq_true rfl⟩ dX1_init_6 rfl ?_
  have hz1 := hz.push (.inr (0, 5))
  refine x_putR 11 0 dX1_init_8 rfl fX1_9 (by decide +kernel) (by decide +kernel) (by decide +kernel) (by decide +kernel) (gp hs _) ?_
  have hz2 := hz1.upr (glt (gp hs _)) 0 (some (n))
  refine x_aload_n 12 0 dX1_init_11 rfl rfl (by decide) rfl ?_
  refine x_iconst 13 dX1_init_12 rfl ?_
  refine x_newI 15 (N := 5) (lp hn _) rfl (by decide) hz2 ⟨Nat.le_of_ble_eq_true rfl, Nat.le_of_ble_eq_true rfl⟩ dX1_init_13 rfl ?_
  have hz3 := hz2.push (.inr (0, 5))
  refine x_putR 18 1 dX1_init_15 rfl fX1_15 (by decide +kernel) (by decide +kernel) (by decide +kernel) (by decide +kernel) (gp (gp hs _) _) ?_
  have hz4 := hz3.upr (glt (gp (gp hs _) _)) 1 (some (n + 1))
  refine x_aload_n 19 0 dX1_init_18 rfl rfl (by decide) rfl ?_
  refine x_iconst 20 dX1_init_19 rfl ?_
  refine x_newI 22 (N := 5) (lp (lp hn _) _) rfl (by decide) hz4 ⟨Nat.le_of_ble_eq_true rfl, Nat.le_of_ble_eq_true rfl⟩ dX1_init_20 rfl ?_
  have hz5 := hz4.push (.inr (0, 5))
  refine x_putR 25 2 dX1_init_22 rfl fX1_18 (by decide +kernel) (by decide +kernel) (by decide +kernel) (by decide +kernel) (gp (gp (gp hs _) _) _) ?_
  have hz6 := hz5.upr (glt (gp (gp (gp hs _) _) _)) 2 (some (n + 1 + 1))
  refine x_aload_n 26 0 dX1_init_25 rfl rfl (by decide) rfl ?_
  refine x_iconst 27 dX1_init_26 rfl ?_
  refine x_newI 29 (N := 5) (lp (lp (lp hn _) _) _) rfl (by decide) hz6 ⟨Nat.le_of_ble_eq_true rfl, Nat.le_of_ble_eq_true rfl⟩ dX1_init_27 rfl ?_
  have hz7 := hz6.push (.inr (0, 5))
  refine x_putR 32 3 dX1_init_29 rfl fX1_21 (by decide +kernel) (by decide +kernel) (by decide +kernel) (by decide +kernel) (gp (gp (gp (gp hs _) _) _) _) ?_
  have hz8 := hz7.upr (glt (gp (gp (gp (gp hs _) _) _) _)) 3 (some (n + 1 + 1 + 1))
  refine x_aload_n 33 0 dX1_init_32 rfl rfl (by decide) rfl ?_
  refine x_bipush 35 dX1_init_33 rfl (by decide) ?_
  refine x_newI 37 (N := 10) (lp (lp (lp (lp hn _) _) _) _) rfl (by decide) hz8 ⟨Nat.le_of_ble_eq_true rfl, Nat.le_of_ble_eq_true rfl⟩ dX1_init_35 rfl ?_
  have hz9 := hz8.push (.inr (0, 10))
  refine x_putR 40 4 dX1_init_37 rfl fX1_24 (by decide +kernel) (by decide +kernel) (by decide +kernel) (by decide +kernel) (gp (gp (gp (gp (gp hs _) _) _) _) _) ?_
  have hz10 := hz9.upr (glt (gp (gp (gp (gp (gp hs _) _) _) _) _)) 4 (some (n + 1 + 1 + 1 + 1))
  refine x_aload_n 41 0 dX1_init_40 rfl rfl (by decide) rfl ?_
  refine x_bipush 43 dX1_init_41 rfl (by decide) ?_
  refine x_newI 45 (N := 10) (lp (lp (lp (lp (lp hn _) _) _) _) _) rfl (by decide) hz10 ⟨Nat.le_of_ble_eq_true rfl, Nat.le_of_ble_eq_true rfl⟩ dX1_init_43 rfl ?_
  have hz11 := hz10.push (.inr (0, 10))
  refine x_putR 48 5 dX1_init_45 rfl fX1_27 (by decide +kernel) (by decide +kernel) (by decide +kernel) (by decide +kernel) (gp (gp (gp (gp (gp (gp hs _) _) _) _) _) _) ?_
  have hz12 := hz11.upr (glt (gp (gp (gp (gp (gp (gp hs _) _) _) _) _) _)) 5 (some (n + 1 + 1 + 1 + 1 + 1))
  refine x_vret dX1_init_48 rfl ⟨rfl, Nat.le_of_ble_eq_true rfl⟩ ?_
  exact ⟨rfl, rfl, hz12⟩

set_option maxHeartbeats 4000000 in
theorem i_X3 {g : GG} {sh : List Shp} {rf : Nat → Nat → Option Nat} {M : Mem} {i n : Nat} (hs : sh[i]? = some (.inl 3)) (hn : sh.length = n) (hz : Zr sh rf M) : Con g tX3_init 1 2 12 [rv g i] (sh, rf, M) (fun v hp => v = none ∧ hp = (((sh ++ [.inr (0, 6)]) ++ [.inr (0, 6)]), (upr (upr rf i 0 (some (n))) i 1 (some (n + 1))), M) ∧ Zr hp.1 hp.2.1 hp.2.2) := by
  refine Con.of [some (rv g i)] (by decide +kernel) rfl (Nat.le_of_ble_eq_true rfl) ?_
  refine x_aload_n 1 0 dX3_init_0 rfl rfl (by decide) rfl ?_
  refine x_obj 4 dX3_init_1 rfl (xm 122 (by decide +kernel) (by decide +kernel)) (Nat.le_of_ble_eq_true rfl) (Nat.le_of_ble_eq_true rfl) ?_
  refine x_aload_n 5 0 dX3_init_4 rfl rfl (by decide) rfl ?_
  refine x_bipush 7 dX3_init_5 rfl (by decide) ?_
  refine x_newI 9 (N := 6) hn rfl (by decide) hz ⟨Nat.le_of_ble_eq_true rfl, Nat.le_of_ble_eq_true rfl⟩ dX3_init_7 rfl ?_
  have hz1 := hz.push (.inr (0, 6))
  refine x_putR 12 0 dX3_init_9 rfl fX3_11 (by decide +kernel) (by decide +kernel) (by decide +kernel) (by decide +kernel) (gp hs _) ?_
  have hz2 := hz1.upr (glt (gp hs _)) 0 (some (n))
  refine x_aload_n 13 0 dX3_init_12 rfl rfl (by decide) rfl ?_
  refine x_bipush 15 dX3_init_13 rfl (by decide) ?_
  refine x_newI 17 (N := 6) (lp hn _) rfl (by decide) hz2 ⟨Nat.le_of_ble_eq_true rfl, Nat.le_of_ble_eq_true rfl⟩ dX3_init_15 rfl ?_
  have hz3 := hz2.push (.inr (0, 6))
  refine x_putR 20 1 dX3_init_17 rfl fX3_15 (by decide +kernel) (by decide +kernel) (by decide +kernel) (by decide +kernel) (gp (gp hs _) _) ?_
  have hz4 := hz3.upr (glt (gp (gp hs _) _)) 1 (some (n + 1))
  refine x_vret dX3_init_20 rfl ⟨rfl, Nat.le_of_ble_eq_true rfl⟩ ?_
  exact ⟨rfl, rfl, hz4⟩

set_option maxHeartbeats 4000000 in
theorem i_X0 {g : GG} {sh : List Shp} {rf : Nat → Nat → Option Nat} {M : Mem} {i n : Nat} (hs : sh[i]? = some (.inl 0)) (hn : sh.length = n) (hz : Zr sh rf M) : Con g tX0_init 1 0 0 [rv g i] (sh, rf, M) (fun v hp => v = none ∧ hp = (sh, rf, M) ∧ Zr hp.1 hp.2.1 hp.2.2) := by
  refine Con.of [some (rv g i)] (by decide +kernel) rfl (Nat.le_of_ble_eq_true rfl) ?_
  refine x_aload_n 1 0 dX0_init_0 rfl rfl (by decide) rfl ?_
  refine x_obj 4 dX0_init_1 rfl (xm 140 (by decide +kernel) (by decide +kernel)) (Nat.le_of_ble_eq_true rfl) (Nat.le_of_ble_eq_true rfl) ?_
  refine x_vret dX0_init_4 rfl ⟨rfl, Nat.le_of_ble_eq_true rfl⟩ ?_
  exact ⟨rfl, rfl, hz⟩

set_option maxHeartbeats 4000000 in
theorem i_X2 {g : GG} {sh : List Shp} {rf : Nat → Nat → Option Nat} {M : Mem} {i n : Nat} (hs : sh[i]? = some (.inl 2)) (hn : sh.length = n) (hz : Zr sh rf M) : Con g tX2_init 1 1 40 [rv g i] (sh, rf, M) (fun v hp => v = none ∧ hp = ((sh ++ [.inr (0, 40)]), (upr rf i 0 (some (n))), (up2 M i 2 (-1))) ∧ Zr hp.1 hp.2.1 hp.2.2) := by
  refine Con.of [some (rv g i)] (by decide +kernel) rfl (Nat.le_of_ble_eq_true rfl) ?_
  refine x_aload_n 1 0 dX2_init_0 rfl rfl (by decide) rfl ?_
  refine x_obj 4 dX2_init_1 rfl (xm 154 (by decide +kernel) (by decide +kernel)) (Nat.le_of_ble_eq_true rfl) (Nat.le_of_ble_eq_true rfl) ?_
  refine x_aload_n 5 0 dX2_init_4 rfl rfl (by decide) rfl ?_
  refine x_bipush 7 dX2_init_5 rfl (by decide) ?_
  refine x_newI 9 (N := 40) hn rfl (by decide) hz ⟨Nat.le_of_ble_eq_true rfl, Nat.le_of_ble_eq_true rfl⟩ dX2_init_7 rfl ?_
  have hz1 := hz.push (.inr (0, 40))
  refine x_putR 12 0 dX2_init_9 rfl fX2_9 (by decide +kernel) (by decide +kernel) (by decide +kernel) (by decide +kernel) (gp hs _) ?_
  have hz2 := hz1.upr (glt (gp hs _)) 0 (some (n))
  refine x_aload_n 13 0 dX2_init_12 rfl rfl (by decide) rfl ?_
  refine x_iconst 14 dX2_init_13 rfl ?_
  refine x_putI 17 2 2 rfl dX2_init_14 rfl fX2_15 rfl rfl (gp hs _) (by omega) ?_
  have hz3 := hz2.up2 (glt (gp hs _)) 2 (-1)
  refine x_vret dX2_init_17 rfl ⟨rfl, Nat.le_of_ble_eq_true rfl⟩ ?_
  exact ⟨rfl, rfl, hz3⟩
