set_option maxHeartbeats 4000000 in
theorem i_X5 {g : GG} {sh : List Shp} {rf : Nat → Nat → Option Nat} {M : Mem} {i n : Nat} (hs : sh[i]? = some (.inl 5)) (hn : sh.length = n) (hz : Zr sh rf M) : Con g tX5_init 2 2 162 [rv g i] (sh, rf, M) (fun v hp => v = none ∧ hp = ((sh ++ [.inl 4]) ++ [.inr (1, 160)], upr (upr rf n 0 (some (n + 1))) i 0 (some n), M) ∧ Zr hp.1 hp.2.1 hp.2.2) := by
  refine Con.of [some (rv g i)] (by decide +kernel) rfl (Nat.le_of_ble_eq_true rfl) ?_
  refine x_aload_n 1 0 dX5_init_0 rfl rfl (by decide) rfl ?_
  refine x_obj 4 dX5_init_1 rfl (xm 28 (by decide +kernel) (by decide +kernel)) (Nat.le_of_ble_eq_true rfl) (Nat.le_of_ble_eq_true rfl) ?_
  refine x_aload_n 5 0 dX5_init_4 rfl rfl (by decide) rfl ?_
  refine x_new 8 (ci := 4) hn (by decide) (xm 29 (by decide +kernel) (by decide +kernel)) (xm 30 (by decide +kernel) (by decide +kernel)) (xm 3 (by decide +kernel) (by decide +kernel)) hz ⟨Nat.le_of_ble_eq_true rfl, Nat.le_of_ble_eq_true rfl⟩ dX5_init_5 rfl ?_
  have hz1 := hz.push (.inl 4)
  refine x_dup 9 dX5_init_8 rfl rfl ?_
  refine x_initN 12 (i_X4 (gl hn _) (lp hn _) hz1) mX4_init (by decide +kernel) dX5_init_9 rfl (Nat.le_of_ble_eq_true rfl) ⟨Nat.le_of_ble_eq_true rfl, Nat.le_of_ble_eq_true rfl, Nat.le_of_ble_eq_true rfl⟩ (fun v9 hp9 q9 => ?_)
  obtain ⟨rfl, rfl, hz2⟩ := q9
  refine x_putR 15 0 dX5_init_12 rfl fX5_12 (by decide +kernel) (by decide +kernel) (by decide +kernel) (by decide +kernel) (gp (gp hs _) _) ?_
  have hz3 := hz2.upr (glt (gp (gp hs _) _)) 0 (some n)
  refine x_vret dX5_init_15 rfl ⟨rfl, Nat.le_of_ble_eq_true rfl⟩ ?_
  exact ⟨rfl, rfl, hz3⟩

def rfN : Nat → Nat → Option Nat := fun _ _ => none
def mZ : Mem := fun _ _ => 0
def S50 : List Shp := [.inl 6, .inl 5, .inl 4, .inr (1, 160), .inl 1, .inr (0, 5), .inr (0, 5), .inr (0, 5), .inr (0, 5), .inr (0, 10), .inr (0, 10), .inl 1, .inr (0, 5), .inr (0, 5), .inr (0, 5), .inr (0, 5), .inr (0, 10), .inr (0, 10), .inr (3, 2), .inr (2, 2), .inr (4, 4), .inl 3, .inr (0, 6), .inr (0, 6), .inl 0, .inr (0, 5), .inr (0, 441), .inr (0, 6), .inl 1, .inr (0, 5), .inr (0, 5), .inr (0, 5), .inr (0, 5), .inr (0, 10), .inr (0, 10), .inl 1, .inr (0, 5), .inr (0, 5), .inr (0, 5), .inr (0, 5), .inr (0, 10), .inr (0, 10), .inl 2, .inr (0, 40), .inl 2, .inr (0, 40), .inl 2, .inr (0, 40), .inl 2, .inr (0, 40)]
def rf6 : Nat → Nat → Option Nat := (upr (upr (upr (upr (upr (upr (upr (upr (upr (upr (upr (upr (upr (upr (upr (upr (upr (upr (upr (upr (upr (upr (upr (upr (upr (upr (upr (upr (upr (upr (upr (upr (upr (upr (upr (upr (upr (upr (upr (upr (upr (upr (upr (upr (upr (upr (upr (upr (upr (upr rfN 2 0 (some 3)) 1 0 (some 2)) 0 0 (some 1)) 0 1 (some 2)) 4 0 (some 5)) 4 1 (some 6)) 4 2 (some 7)) 4 3 (some 8)) 4 4 (some 9)) 4 5 (some 10)) 0 2 (some 4)) 11 0 (some 12)) 11 1 (some 13)) 11 2 (some 14)) 11 3 (some 15)) 11 4 (some 16)) 11 5 (some 17)) 0 3 (some 11)) 0 4 (some 18)) 0 5 (some 19)) 0 6 (some 20)) 21 0 (some 22)) 21 1 (some 23)) 0 7 (some 21)) 0 8 (some 24)) 0 9 (some 25)) 0 10 (some 26)) 0 11 (some 27)) 28 0 (some 29)) 28 1 (some 30)) 28 2 (some 31)) 28 3 (some 32)) 28 4 (some 33)) 28 5 (some 34)) 18 0 (some 28)) 35 0 (some 36)) 35 1 (some 37)) 35 2 (some 38)) 35 3 (some 39)) 35 4 (some 40)) 35 5 (some 41)) 18 1 (some 35)) 42 0 (some 43)) 20 0 (some 42)) 44 0 (some 45)) 20 1 (some 44)) 46 0 (some 47)) 20 2 (some 46)) 48 0 (some 49)) 20 3 (some 48))
def m6 : Mem := (up2 (up2 (up2 (up2 mZ 42 2 (-1)) 44 2 (-1)) 46 2 (-1)) 48 2 (-1))

theorem zr0 (s : Shp) : Zr [s] rfN mZ := fun _ _ => ⟨fun _ => rfl, fun _ => rfl⟩
set_option maxHeartbeats 8000000 in
set_option maxRecDepth 20000 in
theorem i_X6 {g : GG} : Con g tX6_init 3 49 1014 [rv g 0] ([.inl 6], rfN, mZ) (fun v hp => v = none ∧ hp = (S50, rf6, m6) ∧ Zr hp.1 hp.2.1 hp.2.2) := by
  refine Con.of [some (rv g 0), none] (by decide +kernel) rfl (Nat.le_of_ble_eq_true rfl) ?_
  have hz := zr0 (.inl 6)
  refine x_aload_n 1 0 dX6_init_0 rfl rfl (by decide) rfl ?_
  refine x_obj 4 dX6_init_1 rfl (xm 20 (by decide +kernel) (by decide +kernel)) (Nat.le_of_ble_eq_true rfl) (Nat.le_of_ble_eq_true rfl) ?_
  refine x_aload_n 5 0 dX6_init_4 rfl rfl (by decide) rfl ?_
  refine x_new 8 (j := 1) (ci := 5) rfl (by decide) (xm 23 (by decide +kernel) (by decide +kernel)) (xm 24 (by decide +kernel) (by decide +kernel)) (xm 2 (by decide +kernel) (by decide +kernel)) hz ⟨Nat.le_of_ble_eq_true rfl, Nat.le_of_ble_eq_true rfl⟩ dX6_init_5 rfl ?_
  have hz1 := hz.push (.inl 5)
  refine x_dup 9 dX6_init_8 rfl rfl ?_
  refine x_initN 12 (i_X5 (i := 1) (n := 2) rfl rfl hz1) mX5_init (by decide +kernel) dX6_init_9 rfl (Nat.le_of_ble_eq_true rfl) ⟨Nat.le_of_ble_eq_true rfl, Nat.le_of_ble_eq_true rfl, Nat.le_of_ble_eq_true rfl⟩ (fun v9 hp9 q9 => ?_)
  obtain ⟨rfl, rfl, hz2⟩ := q9
  refine x_putR 15 0 dX6_init_12 rfl fX6_12 (by decide +kernel) (by decide +kernel) (by decide +kernel) (by decide +kernel) rfl ?_
  have hz3 := hz2.upr (i := 0) (Nat.le_of_ble_eq_true rfl) 0 (some 1)
  refine x_aload_n 16 0 dX6_init_15 rfl rfl (by decide) rfl ?_
  refine x_aload_n 17 0 dX6_init_16 rfl rfl (by decide) rfl ?_
  refine x_getR 20 0 1 dX6_init_17 rfl fX6_12 rfl rfl rfl ?_
  refine x_getR 23 0 2 dX6_init_20 rfl fX6_16 rfl rfl rfl ?_
  refine x_putR 26 1 dX6_init_23 rfl fX6_20 (by decide +kernel) (by decide +kernel) (by decide +kernel) (by decide +kernel) rfl ?_
  have hz4 := hz3.upr (i := 0) (Nat.le_of_ble_eq_true rfl) 1 (some 2)
  refine x_aload_n 27 0 dX6_init_26 rfl rfl (by decide) rfl ?_
  refine x_new 30 (j := 4) (ci := 1) rfl (by decide) (xm 70 (by decide +kernel) (by decide +kernel)) (xm 71 (by decide +kernel) (by decide +kernel)) (xm 4 (by decide +kernel) (by decide +kernel)) hz4 ⟨Nat.le_of_ble_eq_true rfl, Nat.le_of_ble_eq_true rfl⟩ dX6_init_27 rfl ?_
  have hz5 := hz4.push (.inl 1)
  refine x_dup 31 dX6_init_30 rfl rfl ?_
  refine x_initN 34 (i_X1 (i := 4) (n := 5) rfl rfl hz5) mX1_init (by decide +kernel) dX6_init_31 rfl (Nat.le_of_ble_eq_true rfl) ⟨Nat.le_of_ble_eq_true rfl, Nat.le_of_ble_eq_true rfl, Nat.le_of_ble_eq_true rfl⟩ (fun v31 hp31 q31 => ?_)
  obtain ⟨rfl, rfl, hz6⟩ := q31
  refine x_putR 37 2 dX6_init_34 rfl fX6_24 (by decide +kernel) (by decide +kernel) (by decide +kernel) (by decide +kernel) rfl ?_
  have hz7 := hz6.upr (i := 0) (Nat.le_of_ble_eq_true rfl) 2 (some 4)
  refine x_aload_n 38 0 dX6_init_37 rfl rfl (by decide) rfl ?_
  refine x_new 41 (j := 11) (ci := 1) rfl (by decide) (xm 70 (by decide +kernel) (by decide +kernel)) (xm 71 (by decide +kernel) (by decide +kernel)) (xm 4 (by decide +kernel) (by decide +kernel)) hz7 ⟨Nat.le_of_ble_eq_true rfl, Nat.le_of_ble_eq_true rfl⟩ dX6_init_38 rfl ?_
  have hz8 := hz7.push (.inl 1)
  refine x_dup 42 dX6_init_41 rfl rfl ?_
  refine x_initN 45 (i_X1 (i := 11) (n := 12) rfl rfl hz8) mX1_init (by decide +kernel) dX6_init_42 rfl (Nat.le_of_ble_eq_true rfl) ⟨Nat.le_of_ble_eq_true rfl, Nat.le_of_ble_eq_true rfl, Nat.le_of_ble_eq_true rfl⟩ (fun v42 hp42 q42 => ?_)
  obtain ⟨rfl, rfl, hz9⟩ := q42
  refine x_putR 48 3 dX6_init_45 rfl fX6_28 (by decide +kernel) (by decide +kernel) (by decide +kernel) (by decide +kernel) rfl ?_
  have hz10 := hz9.upr (i := 0) (Nat.le_of_ble_eq_true rfl) 3 (some 11)
  refine x_aload_n 49 0 dX6_init_48 rfl rfl (by decide) rfl ?_
  refine x_iconst 50 dX6_init_49 rfl ?_
  refine x_newQ 53 (j := 18) (N := 2) (t := 3) (C := RX1) rfl (by decide) rfl (fun _ h => h.2.2.1) (xm 70 (by decide +kernel) (by decide +kernel)) rfl (by decide) hz10 ⟨Nat.le_of_ble_eq_true rfl, Nat.le_of_ble_eq_true rfl⟩ dX6_init_50 rfl ?_
  have hz11 := hz10.push (.inr (3, 2))
  refine x_putR 56 4 dX6_init_53 rfl fX6_31 (by decide +kernel) (by decide +kernel) (by decide +kernel) (by decide +kernel) rfl ?_
  have hz12 := hz11.upr (i := 0) (Nat.le_of_ble_eq_true rfl) 4 (some 18)
  refine x_aload_n 57 0 dX6_init_56 rfl rfl (by decide) rfl ?_
  refine x_iconst 58 dX6_init_57 rfl ?_
  refine x_newZ 60 (j := 19) (N := 2) rfl rfl (by decide) hz12 ⟨Nat.le_of_ble_eq_true rfl, Nat.le_of_ble_eq_true rfl⟩ dX6_init_58 rfl ?_
  have hz13 := hz12.push (.inr (2, 2))
  refine x_putR 63 5 dX6_init_60 rfl fX6_35 (by decide +kernel) (by decide +kernel) (by decide +kernel) (by decide +kernel) rfl ?_
  have hz14 := hz13.upr (i := 0) (Nat.le_of_ble_eq_true rfl) 5 (some 19)
  refine x_aload_n 64 0 dX6_init_63 rfl rfl (by decide) rfl ?_
  refine x_iconst 65 dX6_init_64 rfl ?_
  refine x_newQ 68 (j := 20) (N := 4) (t := 4) (C := RX2) rfl (by decide) rfl (fun _ h => h.2.2.2) (xm 115 (by decide +kernel) (by decide +kernel)) rfl (by decide) hz14 ⟨Nat.le_of_ble_eq_true rfl, Nat.le_of_ble_eq_true rfl⟩ dX6_init_65 rfl ?_
  have hz15 := hz14.push (.inr (4, 4))
  refine x_putR 71 6 dX6_init_68 rfl fX6_41 (by decide +kernel) (by decide +kernel) (by decide +kernel) (by decide +kernel) rfl ?_
  have hz16 := hz15.upr (i := 0) (Nat.le_of_ble_eq_true rfl) 6 (some 20)
  refine x_aload_n 72 0 dX6_init_71 rfl rfl (by decide) rfl ?_
  refine x_new 75 (j := 21) (ci := 3) rfl (by decide) (xm 117 (by decide +kernel) (by decide +kernel)) (xm 118 (by decide +kernel) (by decide +kernel)) (xm 5 (by decide +kernel) (by decide +kernel)) hz16 ⟨Nat.le_of_ble_eq_true rfl, Nat.le_of_ble_eq_true rfl⟩ dX6_init_72 rfl ?_
  have hz17 := hz16.push (.inl 3)
  refine x_dup 76 dX6_init_75 rfl rfl ?_
  refine x_initN 79 (i_X3 (i := 21) (n := 22) rfl rfl hz17) mX3_init (by decide +kernel) dX6_init_76 rfl (Nat.le_of_ble_eq_true rfl) ⟨Nat.le_of_ble_eq_true rfl, Nat.le_of_ble_eq_true rfl, Nat.le_of_ble_eq_true rfl⟩ (fun v76 hp76 q76 => ?_)
  obtain ⟨rfl, rfl, hz18⟩ := q76
  refine x_putR 82 7 dX6_init_79 rfl fX6_48 (by decide +kernel) (by decide +kernel) (by decide +kernel) (by decide +kernel) rfl ?_
  have hz19 := hz18.upr (i := 0) (Nat.le_of_ble_eq_true rfl) 7 (some 21)
  refine x_aload_n 83 0 dX6_init_82 rfl rfl (by decide) rfl ?_
  refine x_new 86 (j := 24) (ci := 0) rfl (by decide) (xm 135 (by decide +kernel) (by decide +kernel)) (xm 136 (by decide +kernel) (by decide +kernel)) (xm 6 (by decide +kernel) (by decide +kernel)) hz19 ⟨Nat.le_of_ble_eq_true rfl, Nat.le_of_ble_eq_true rfl⟩ dX6_init_83 rfl ?_
  have hz20 := hz19.push (.inl 0)
  refine x_dup 87 dX6_init_86 rfl rfl ?_
  refine x_initN 90 (i_X0 (i := 24) (n := 25) rfl rfl hz20) mX0_init (by decide +kernel) dX6_init_87 rfl (Nat.le_of_ble_eq_true rfl) ⟨Nat.le_of_ble_eq_true rfl, Nat.le_of_ble_eq_true rfl, Nat.le_of_ble_eq_true rfl⟩ (fun v87 hp87 q87 => ?_)
  obtain ⟨rfl, rfl, hz21⟩ := q87
  refine x_putR 93 8 dX6_init_90 rfl fX6_55 (by decide +kernel) (by decide +kernel) (by decide +kernel) (by decide +kernel) rfl ?_
  have hz22 := hz21.upr (i := 0) (Nat.le_of_ble_eq_true rfl) 8 (some 24)
  refine x_aload_n 94 0 dX6_init_93 rfl rfl (by decide) rfl ?_
  refine x_iconst 95 dX6_init_94 rfl ?_
  refine x_newI 97 (j := 25) (N := 5) rfl rfl (by decide) hz22 ⟨Nat.le_of_ble_eq_true rfl, Nat.le_of_ble_eq_true rfl⟩ dX6_init_95 rfl ?_
  have hz23 := hz22.push (.inr (0, 5))
  refine x_putR 100 9 dX6_init_97 rfl fX6_59 (by decide +kernel) (by decide +kernel) (by decide +kernel) (by decide +kernel) rfl ?_
  have hz24 := hz23.upr (i := 0) (Nat.le_of_ble_eq_true rfl) 9 (some 25)
  refine x_aload_n 101 0 dX6_init_100 rfl rfl (by decide) rfl ?_
  refine x_sipush 104 dX6_init_101 rfl (by decide) ?_
  refine x_newI 106 (j := 26) (N := 441) rfl rfl (by decide) hz24 ⟨Nat.le_of_ble_eq_true rfl, Nat.le_of_ble_eq_true rfl⟩ dX6_init_104 rfl ?_
  have hz25 := hz24.push (.inr (0, 441))
  refine x_putR 109 10 dX6_init_106 rfl fX6_63 (by decide +kernel) (by decide +kernel) (by decide +kernel) (by decide +kernel) rfl ?_
  have hz26 := hz25.upr (i := 0) (Nat.le_of_ble_eq_true rfl) 10 (some 26)
  refine x_aload_n 110 0 dX6_init_109 rfl rfl (by decide) rfl ?_
  refine x_bipush 112 dX6_init_110 rfl (by decide) ?_
  refine x_newI 114 (j := 27) (N := 6) rfl rfl (by decide) hz26 ⟨Nat.le_of_ble_eq_true rfl, Nat.le_of_ble_eq_true rfl⟩ dX6_init_112 rfl ?_
  have hz27 := hz26.push (.inr (0, 6))
  refine x_putR 117 11 dX6_init_114 rfl fX6_66 (by decide +kernel) (by decide +kernel) (by decide +kernel) (by decide +kernel) rfl ?_
  have hz28 := hz27.upr (i := 0) (Nat.le_of_ble_eq_true rfl) 11 (some 27)
  refine x_iconst 118 dX6_init_117 rfl ?_
  refine x_istore_n 119 1 _ dX6_init_118 rfl rfl (by decide) rfl rfl ?_
  refine x_iload_n 120 1 dX6_init_119 rfl rfl (by decide) rfl ?_
  refine x_iconst 121 dX6_init_120 rfl ?_
  refine x_icmp_ge 143 124 dX6_init_121 (by decide) rfl (by omega) (fun hc => by exfalso; omega) (fun hc => ?_)
  refine x_aload_n 125 0 dX6_init_124 rfl rfl (by decide) rfl ?_
  refine x_getR 128 4 18 dX6_init_125 rfl fX6_31 rfl rfl rfl ?_
  refine x_iload_n 129 1 dX6_init_128 rfl rfl (by decide) rfl ?_
  refine x_new 132 (j := 28) (ci := 1) rfl (by decide) (xm 70 (by decide +kernel) (by decide +kernel)) (xm 71 (by decide +kernel) (by decide +kernel)) (xm 4 (by decide +kernel) (by decide +kernel)) hz28 ⟨Nat.le_of_ble_eq_true rfl, Nat.le_of_ble_eq_true rfl⟩ dX6_init_129 rfl ?_
  have hz29 := hz28.push (.inl 1)
  refine x_dup 133 dX6_init_132 rfl rfl ?_
  refine x_initN 136 (i_X1 (i := 28) (n := 29) rfl rfl hz29) mX1_init (by decide +kernel) dX6_init_133 rfl (Nat.le_of_ble_eq_true rfl) ⟨Nat.le_of_ble_eq_true rfl, Nat.le_of_ble_eq_true rfl, Nat.le_of_ble_eq_true rfl⟩ (fun v133 hp133 q133 => ?_)
  obtain ⟨rfl, rfl, hz30⟩ := q133
  refine x_astq 137 (t := 3) (ci := 1) (by decide) dX6_init_136 rfl rfl rfl (by decide) ?_
  have hz31 := hz30.upr (i := 18) (Nat.le_of_ble_eq_true rfl) (0 : Int).toNat (some 28)
  refine x_iinc 140 _ dX6_init_137 rfl (by decide) rfl rfl rfl ?_
  refine x_goto 119 dX6_init_140 (by decide) ?_
  refine x_iload_n 120 1 dX6_init_119 rfl rfl (by decide) rfl ?_
  refine x_iconst 121 dX6_init_120 rfl ?_
  refine x_icmp_ge 143 124 dX6_init_121 (by decide) rfl (by omega) (fun hc => by exfalso; omega) (fun hc => ?_)
  refine x_aload_n 125 0 dX6_init_124 rfl rfl (by decide) rfl ?_
  refine x_getR 128 4 18 dX6_init_125 rfl fX6_31 rfl rfl rfl ?_
  refine x_iload_n 129 1 dX6_init_128 rfl rfl (by decide) rfl ?_
  refine x_new 132 (j := 35) (ci := 1) rfl (by decide) (xm 70 (by decide +kernel) (by decide +kernel)) (xm 71 (by decide +kernel) (by decide +kernel)) (xm 4 (by decide +kernel) (by decide +kernel)) hz31 ⟨Nat.le_of_ble_eq_true rfl, Nat.le_of_ble_eq_true rfl⟩ dX6_init_129 rfl ?_
  have hz32 := hz31.push (.inl 1)
  refine x_dup 133 dX6_init_132 rfl rfl ?_
  refine x_initN 136 (i_X1 (i := 35) (n := 36) rfl rfl hz32) mX1_init (by decide +kernel) dX6_init_133 rfl (Nat.le_of_ble_eq_true rfl) ⟨Nat.le_of_ble_eq_true rfl, Nat.le_of_ble_eq_true rfl, Nat.le_of_ble_eq_true rfl⟩ (fun v133 hp133 q133 => ?_)
  obtain ⟨rfl, rfl, hz33⟩ := q133
  refine x_astq 137 (t := 3) (ci := 1) (by decide) dX6_init_136 rfl rfl rfl (by decide) ?_
  have hz34 := hz33.upr (i := 18) (Nat.le_of_ble_eq_true rfl) (1 : Int).toNat (some 35)
  refine x_iinc 140 _ dX6_init_137 rfl (by decide) rfl rfl rfl ?_
  refine x_goto 119 dX6_init_140 (by decide) ?_
  refine x_iload_n 120 1 dX6_init_119 rfl rfl (by decide) rfl ?_
  refine x_iconst 121 dX6_init_120 rfl ?_
  refine x_icmp_ge 143 124 dX6_init_121 (by decide) rfl (by omega) (fun hc => ?_) (fun hc => by exfalso; omega)
  refine x_iconst 144 dX6_init_143 rfl ?_
  refine x_istore_n 145 1 _ dX6_init_144 rfl rfl (by decide) rfl rfl ?_
  refine x_iload_n 146 1 dX6_init_145 rfl rfl (by decide) rfl ?_
  refine x_iconst 147 dX6_init_146 rfl ?_
  refine x_icmp_ge 169 150 dX6_init_147 (by decide) rfl (by omega) (fun hc => by exfalso; omega) (fun hc => ?_)
  refine x_aload_n 151 0 dX6_init_150 rfl rfl (by decide) rfl ?_
  refine x_getR 154 6 20 dX6_init_151 rfl fX6_41 rfl rfl rfl ?_
  refine x_iload_n 155 1 dX6_init_154 rfl rfl (by decide) rfl ?_
  refine x_new 158 (j := 42) (ci := 2) rfl (by decide) (xm 115 (by decide +kernel) (by decide +kernel)) (xm 150 (by decide +kernel) (by decide +kernel)) (xm 7 (by decide +kernel) (by decide +kernel)) hz34 ⟨Nat.le_of_ble_eq_true rfl, Nat.le_of_ble_eq_true rfl⟩ dX6_init_155 rfl ?_
  have hz35 := hz34.push (.inl 2)
  refine x_dup 159 dX6_init_158 rfl rfl ?_
  refine x_initN 162 (i_X2 (i := 42) (n := 43) rfl rfl hz35) mX2_init (by decide +kernel) dX6_init_159 rfl (Nat.le_of_ble_eq_true rfl) ⟨Nat.le_of_ble_eq_true rfl, Nat.le_of_ble_eq_true rfl, Nat.le_of_ble_eq_true rfl⟩ (fun v159 hp159 q159 => ?_)
  obtain ⟨rfl, rfl, hz36⟩ := q159
  refine x_astq 163 (t := 4) (ci := 2) (by decide) dX6_init_162 rfl rfl rfl (by decide) ?_
  have hz37 := hz36.upr (i := 20) (Nat.le_of_ble_eq_true rfl) (0 : Int).toNat (some 42)
  refine x_iinc 166 _ dX6_init_163 rfl (by decide) rfl rfl rfl ?_
  refine x_goto 145 dX6_init_166 (by decide) ?_
  refine x_iload_n 146 1 dX6_init_145 rfl rfl (by decide) rfl ?_
  refine x_iconst 147 dX6_init_146 rfl ?_
  refine x_icmp_ge 169 150 dX6_init_147 (by decide) rfl (by omega) (fun hc => by exfalso; omega) (fun hc => ?_)
  refine x_aload_n 151 0 dX6_init_150 rfl rfl (by decide) rfl ?_
  refine x_getR 154 6 20 dX6_init_151 rfl fX6_41 rfl rfl rfl ?_
  refine x_iload_n 155 1 dX6_init_154 rfl rfl (by decide) rfl ?_
  refine x_new 158 (j := 44) (ci := 2) rfl (by decide) (xm 115 (by decide +kernel) (by decide +kernel)) (xm 150 (by decide +kernel) (by decide +kernel)) (xm 7 (by decide +kernel) (by decide +kernel)) hz37 ⟨Nat.le_of_ble_eq_true rfl, Nat.le_of_ble_eq_true rfl⟩ dX6_init_155 rfl ?_
  have hz38 := hz37.push (.inl 2)
  refine x_dup 159 dX6_init_158 rfl rfl ?_
  refine x_initN 162 (i_X2 (i := 44) (n := 45) rfl rfl hz38) mX2_init (by decide +kernel) dX6_init_159 rfl (Nat.le_of_ble_eq_true rfl) ⟨Nat.le_of_ble_eq_true rfl, Nat.le_of_ble_eq_true rfl, Nat.le_of_ble_eq_true rfl⟩ (fun v159 hp159 q159 => ?_)
  obtain ⟨rfl, rfl, hz39⟩ := q159
  refine x_astq 163 (t := 4) (ci := 2) (by decide) dX6_init_162 rfl rfl rfl (by decide) ?_
  have hz40 := hz39.upr (i := 20) (Nat.le_of_ble_eq_true rfl) (1 : Int).toNat (some 44)
  refine x_iinc 166 _ dX6_init_163 rfl (by decide) rfl rfl rfl ?_
  refine x_goto 145 dX6_init_166 (by decide) ?_
  refine x_iload_n 146 1 dX6_init_145 rfl rfl (by decide) rfl ?_
  refine x_iconst 147 dX6_init_146 rfl ?_
  refine x_icmp_ge 169 150 dX6_init_147 (by decide) rfl (by omega) (fun hc => by exfalso; omega) (fun hc => ?_)
  refine x_aload_n 151 0 dX6_init_150 rfl rfl (by decide) rfl ?_
  refine x_getR 154 6 20 dX6_init_151 rfl fX6_41 rfl rfl rfl ?_
  refine x_iload_n 155 1 dX6_init_154 rfl rfl (by decide) rfl ?_
  refine x_new 158 (j := 46) (ci := 2) rfl (by decide) (xm 115 (by decide +kernel) (by decide +kernel)) (xm 150 (by decide +kernel) (by decide +kernel)) (xm 7 (by decide +kernel) (by decide +kernel)) hz40 ⟨Nat.le_of_ble_eq_true rfl, Nat.le_of_ble_eq_true rfl⟩ dX6_init_155 rfl ?_
  have hz41 := hz40.push (.inl 2)
  refine x_dup 159 dX6_init_158 rfl rfl ?_
  refine x_initN 162 (i_X2 (i := 46) (n := 47) rfl rfl hz41) mX2_init (by decide +kernel) dX6_init_159 rfl (Nat.le_of_ble_eq_true rfl) ⟨Nat.le_of_ble_eq_true rfl, Nat.le_of_ble_eq_true rfl, Nat.le_of_ble_eq_true rfl⟩ (fun v159 hp159 q159 => ?_)
  obtain ⟨rfl, rfl, hz42⟩ := q159
  refine x_astq 163 (t := 4) (ci := 2) (by decide) dX6_init_162 rfl rfl rfl (by decide) ?_
  have hz43 := hz42.upr (i := 20) (Nat.le_of_ble_eq_true rfl) (2 : Int).toNat (some 46)
  refine x_iinc 166 _ dX6_init_163 rfl (by decide) rfl rfl rfl ?_
  refine x_goto 145 dX6_init_166 (by decide) ?_
  refine x_iload_n 146 1 dX6_init_145 rfl rfl (by decide) rfl ?_
  refine x_iconst 147 dX6_init_146 rfl ?_
  refine x_icmp_ge 169 150 dX6_init_147 (by decide) rfl (by omega) (fun hc => by exfalso; omega) (fun hc => ?_)
  refine x_aload_n 151 0 dX6_init_150 rfl rfl (by decide) rfl ?_
  refine x_getR 154 6 20 dX6_init_151 rfl fX6_41 rfl rfl rfl ?_
  refine x_iload_n 155 1 dX6_init_154 rfl rfl (by decide) rfl ?_
  refine x_new 158 (j := 48) (ci := 2) rfl (by decide) (xm 115 (by decide +kernel) (by decide +kernel)) (xm 150 (by decide +kernel) (by decide +kernel)) (xm 7 (by decide +kernel) (by decide +kernel)) hz43 ⟨Nat.le_of_ble_eq_true rfl, Nat.le_of_ble_eq_true rfl⟩ dX6_init_155 rfl ?_
  have hz44 := hz43.push (.inl 2)
  refine x_dup 159 dX6_init_158 rfl rfl ?_
  refine x_initN 162 (i_X2 (i := 48) (n := 49) rfl rfl hz44) mX2_init (by decide +kernel) dX6_init_159 rfl (Nat.le_of_ble_eq_true rfl) ⟨Nat.le_of_ble_eq_true rfl, Nat.le_of_ble_eq_true rfl, Nat.le_of_ble_eq_true rfl⟩ (fun v159 hp159 q159 => ?_)
  obtain ⟨rfl, rfl, hz45⟩ := q159
  refine x_astq 163 (t := 4) (ci := 2) (by decide) dX6_init_162 rfl rfl rfl (by decide) ?_
  have hz46 := hz45.upr (i := 20) (Nat.le_of_ble_eq_true rfl) (3 : Int).toNat (some 48)
  refine x_iinc 166 _ dX6_init_163 rfl (by decide) rfl rfl rfl ?_
  refine x_goto 145 dX6_init_166 (by decide) ?_
  refine x_iload_n 146 1 dX6_init_145 rfl rfl (by decide) rfl ?_
  refine x_iconst 147 dX6_init_146 rfl ?_
  refine x_icmp_ge 169 150 dX6_init_147 (by decide) rfl (by omega) (fun hc => ?_) (fun hc => by exfalso; omega)
  refine x_vret dX6_init_169 rfl ⟨rfl, Nat.le_of_ble_eq_true rfl⟩ ?_
  exact ⟨rfl, rfl, hz46⟩
