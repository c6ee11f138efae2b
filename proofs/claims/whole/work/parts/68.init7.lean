set_option maxHeartbeats 8000000 in
set_option maxRecDepth 20000 in
theorem i_X7 {g : GG} {sh : List Shp} {rf : Nat → Nat → Option Nat} {M : Mem} {i n : Nat} (hs : sh[i]? = some (.inl 7)) (hn : sh.length = n) (hz : Zr sh rf M) : Con g tX7_init 1 12 1114 [rv g i] (sh, rf, M) (fun v hp => v = none ∧ hp = (((((((((((((sh ++ [.inr (0, 252)]) ++ [.inr (0, 42)]) ++ [.inr (0, 160)]) ++ [.inr (0, 6)]) ++ [.inr (0, 26)]) ++ [.inr (0, 5)]) ++ [.inr (0, 12)]) ++ [.inr (0, 441)]) ++ [.inr (2, 2)]) ++ [.inr (0, 4)]) ++ [.inr (0, 4)]) ++ [.inr (0, 160)]), (upr (upr (upr (upr (upr (upr (upr (upr (upr (upr (upr (upr rf i 0 (some (n))) i 2 (some (n + 1))) i 5 (some (n + 1 + 1))) i 14 (some (n + 1 + 1 + 1))) i 15 (some (n + 1 + 1 + 1 + 1))) i 20 (some (n + 1 + 1 + 1 + 1 + 1))) i 21 (some (n + 1 + 1 + 1 + 1 + 1 + 1))) i 23 (some (n + 1 + 1 + 1 + 1 + 1 + 1 + 1))) i 24 (some (n + 1 + 1 + 1 + 1 + 1 + 1 + 1 + 1))) i 25 (some (n + 1 + 1 + 1 + 1 + 1 + 1 + 1 + 1 + 1))) i 26 (some (n + 1 + 1 + 1 + 1 + 1 + 1 + 1 + 1 + 1 + 1))) i 27 (some (n + 1 + 1 + 1 + 1 + 1 + 1 + 1 + 1 + 1 + 1 + 1))), (up2 (up2 (up2 (up2 (up2 (up2 (up2 (up2 (up2 (up2 (up2 (up2 (up2 (up2 (up2 (up2 (up2 (up2 (up2 (up2 (up2 (up2 (up2 (up2 (up2 (up2 (up2 (up2 (up2 (up2 (up2 (up2 (up2 (up2 (up2 (up2 (up2 M (n + 1 + 1 + 1) 0 (0)) (n + 1 + 1 + 1) 1 (5)) (n + 1 + 1 + 1) 2 (10)) (n + 1 + 1 + 1) 3 (14)) (n + 1 + 1 + 1) 4 (22)) (n + 1 + 1 + 1) 5 (26)) (n + 1 + 1 + 1 + 1) 0 (112)) (n + 1 + 1 + 1 + 1) 1 (108)) (n + 1 + 1 + 1 + 1) 2 (97)) (n + 1 + 1 + 1 + 1) 3 (105)) (n + 1 + 1 + 1 + 1) 4 (110)) (n + 1 + 1 + 1 + 1) 5 (112)) (n + 1 + 1 + 1 + 1) 6 (114)) (n + 1 + 1 + 1 + 1) 7 (111)) (n + 1 + 1 + 1 + 1) 8 (117)) (n + 1 + 1 + 1 + 1) 9 (100)) (n + 1 + 1 + 1 + 1) 10 (119)) (n + 1 + 1 + 1 + 1) 11 (105)) (n + 1 + 1 + 1 + 1) 12 (115)) (n + 1 + 1 + 1 + 1) 13 (101)) (n + 1 + 1 + 1 + 1) 14 (99)) (n + 1 + 1 + 1 + 1) 15 (97)) (n + 1 + 1 + 1 + 1) 16 (114)) (n + 1 + 1 + 1 + 1) 17 (101)) (n + 1 + 1 + 1 + 1) 18 (108)) (n + 1 + 1 + 1 + 1) 19 (101)) (n + 1 + 1 + 1 + 1) 20 (115)) (n + 1 + 1 + 1 + 1) 21 (115)) (n + 1 + 1 + 1 + 1) 22 (103)) (n + 1 + 1 + 1 + 1) 23 (97)) (n + 1 + 1 + 1 + 1) 24 (109)) (n + 1 + 1 + 1 + 1) 25 (101)) i 19 (-4)) (n + 1 + 1 + 1 + 1 + 1 + 1 + 1 + 1 + 1) 0 (-4)) (n + 1 + 1 + 1 + 1 + 1 + 1 + 1 + 1 + 1) 1 (-4)) (n + 1 + 1 + 1 + 1 + 1 + 1 + 1 + 1 + 1) 2 (-4)) (n + 1 + 1 + 1 + 1 + 1 + 1 + 1 + 1 + 1) 3 (-4))) ∧ Zr hp.1 hp.2.1 hp.2.2) := by
  refine Con.of [some (rv g i)] (by decide +kernel) rfl (Nat.le_of_ble_eq_true rfl) ?_
  refine x_aload_n 1 0 dX7_init_0 rfl rfl (by decide) rfl ?_
  refine x_obj 4 dX7_init_1 rfl (xm 718 (by decide +kernel) (by decide +kernel)) (Nat.le_of_ble_eq_true rfl) (Nat.le_of_ble_eq_true rfl) ?_
  refine x_aload_n 5 0 dX7_init_4 rfl rfl (by decide) rfl ?_
  refine x_sipush 8 dX7_init_5 rfl (by decide) ?_
  refine x_newI 10 (N := 252) hn rfl (by decide) hz ⟨Nat.le_of_ble_eq_true rfl, Nat.le_of_ble_eq_true rfl⟩ dX7_init_8 rfl ?_
  have hz1 := hz.push (.inr (0, 252))
  refine x_putR 13 0 dX7_init_10 rfl fX7_7 (by decide +kernel) (by decide +kernel) (by decide +kernel) (by decide +kernel) (gp hs _) ?_
  have hz2 := hz1.upr (glt (gp hs _)) 0 (some (n))
  refine x_aload_n 14 0 dX7_init_13 rfl rfl (by decide) rfl ?_
  refine x_bipush 16 dX7_init_14 rfl (by decide) ?_
  refine x_newI 18 (N := 42) (lp hn _) rfl (by decide) hz2 ⟨Nat.le_of_ble_eq_true rfl, Nat.le_of_ble_eq_true rfl⟩ dX7_init_16 rfl ?_
  have hz3 := hz2.push (.inr (0, 42))
  refine x_putR 21 2 dX7_init_18 rfl fX7_13 (by decide +kernel) (by decide +kernel) (by decide +kernel) (by decide +kernel) (gp (gp hs _) _) ?_
  have hz4 := hz3.upr (glt (gp (gp hs _) _)) 2 (some (n + 1))
  refine x_aload_n 22 0 dX7_init_21 rfl rfl (by decide) rfl ?_
  refine x_sipush 25 dX7_init_22 rfl (by decide) ?_
  refine x_newI 27 (N := 160) (lp (lp hn _) _) rfl (by decide) hz4 ⟨Nat.le_of_ble_eq_true rfl, Nat.le_of_ble_eq_true rfl⟩ dX7_init_25 rfl ?_
  have hz5 := hz4.push (.inr (0, 160))
  refine x_putR 30 5 dX7_init_27 rfl fX7_16 (by decide +kernel) (by decide +kernel) (by decide +kernel) (by decide +kernel) (gp (gp (gp hs _) _) _) ?_
  have hz6 := hz5.upr (glt (gp (gp (gp hs _) _) _)) 5 (some (n + 1 + 1))
  refine x_aload_n 31 0 dX7_init_30 rfl rfl (by decide) rfl ?_
  refine x_bipush 33 dX7_init_31 rfl (by decide) ?_
  refine x_newI 35 (N := 6) (lp (lp (lp hn _) _) _) rfl (by decide) hz6 ⟨Nat.le_of_ble_eq_true rfl, Nat.le_of_ble_eq_true rfl⟩ dX7_init_33 rfl ?_
  have hz7 := hz6.push (.inr (0, 6))
  refine x_dup 36 dX7_init_35 rfl rfl ?_
  refine x_iconst 37 dX7_init_36 rfl ?_
  refine x_iconst 38 dX7_init_37 rfl ?_
  refine x_iastore 39 dX7_init_38 rfl (gl (lp (lp (lp hn _) _) _) _) (by omega) (by omega) ?_
  have hz8 := hz7.up2 (glt (gl (lp (lp (lp hn _) _) _) _)) 0 (0)
  refine x_dup 40 dX7_init_39 rfl rfl ?_
  refine x_iconst 41 dX7_init_40 rfl ?_
  refine x_iconst 42 dX7_init_41 rfl ?_
  refine x_iastore 43 dX7_init_42 rfl (gl (lp (lp (lp hn _) _) _) _) (by omega) (by omega) ?_
  have hz9 := hz8.up2 (glt (gl (lp (lp (lp hn _) _) _) _)) 1 (5)
  refine x_dup 44 dX7_init_43 rfl rfl ?_
  refine x_iconst 45 dX7_init_44 rfl ?_
  refine x_bipush 47 dX7_init_45 rfl (by decide) ?_
  refine x_iastore 48 dX7_init_47 rfl (gl (lp (lp (lp hn _) _) _) _) (by omega) (by omega) ?_
  have hz10 := hz9.up2 (glt (gl (lp (lp (lp hn _) _) _) _)) 2 (10)
  refine x_dup 49 dX7_init_48 rfl rfl ?_
  refine x_iconst 50 dX7_init_49 rfl ?_
  refine x_bipush 52 dX7_init_50 rfl (by decide) ?_
  refine x_iastore 53 dX7_init_52 rfl (gl (lp (lp (lp hn _) _) _) _) (by omega) (by omega) ?_
  have hz11 := hz10.up2 (glt (gl (lp (lp (lp hn _) _) _) _)) 3 (14)
  refine x_dup 54 dX7_init_53 rfl rfl ?_
  refine x_iconst 55 dX7_init_54 rfl ?_
  refine x_bipush 57 dX7_init_55 rfl (by decide) ?_
  refine x_iastore 58 dX7_init_57 rfl (gl (lp (lp (lp hn _) _) _) _) (by omega) (by omega) ?_
  have hz12 := hz11.up2 (glt (gl (lp (lp (lp hn _) _) _) _)) 4 (22)
  refine x_dup 59 dX7_init_58 rfl rfl ?_
  refine x_iconst 60 dX7_init_59 rfl ?_
  refine x_bipush 62 dX7_init_60 rfl (by decide) ?_
  refine x_iastore 63 dX7_init_62 rfl (gl (lp (lp (lp hn _) _) _) _) (by omega) (by omega) ?_
  have hz13 := hz12.up2 (glt (gl (lp (lp (lp hn _) _) _) _)) 5 (26)
  refine x_putR 66 14 dX7_init_63 rfl fX7_19 (by decide +kernel) (by decide +kernel) (by decide +kernel) (by decide +kernel) (gp (gp (gp (gp hs _) _) _) _) ?_
  have hz14 := hz13.upr (glt (gp (gp (gp (gp hs _) _) _) _)) 14 (some (n + 1 + 1 + 1))
  refine x_aload_n 67 0 dX7_init_66 rfl rfl (by decide) rfl ?_
  refine x_bipush 69 dX7_init_67 rfl (by decide) ?_
  refine x_newI 71 (N := 26) (lp (lp (lp (lp hn _) _) _) _) rfl (by decide) hz14 ⟨Nat.le_of_ble_eq_true rfl, Nat.le_of_ble_eq_true rfl⟩ dX7_init_69 rfl ?_
  have hz15 := hz14.push (.inr (0, 26))
  refine x_dup 72 dX7_init_71 rfl rfl ?_
  refine x_iconst 73 dX7_init_72 rfl ?_
  refine x_bipush 75 dX7_init_73 rfl (by decide) ?_
  refine x_iastore 76 dX7_init_75 rfl (gl (lp (lp (lp (lp hn _) _) _) _) _) (by omega) (by omega) ?_
  have hz16 := hz15.up2 (glt (gl (lp (lp (lp (lp hn _) _) _) _) _)) 0 (112)
  refine x_dup 77 dX7_init_76 rfl rfl ?_
  refine x_iconst 78 dX7_init_77 rfl ?_
  refine x_bipush 80 dX7_init_78 rfl (by decide) ?_
  refine x_iastore 81 dX7_init_80 rfl (gl (lp (lp (lp (lp hn _) _) _) _) _) (by omega) (by omega) ?_
  have hz17 := hz16.up2 (glt (gl (lp (lp (lp (lp hn _) _) _) _) _)) 1 (108)
  refine x_dup 82 dX7_init_81 rfl rfl ?_
  refine x_iconst 83 dX7_init_82 rfl ?_
  refine x_bipush 85 dX7_init_83 rfl (by decide) ?_
  refine x_iastore 86 dX7_init_85 rfl (gl (lp (lp (lp (lp hn _) _) _) _) _) (by omega) (by omega) ?_
  have hz18 := hz17.up2 (glt (gl (lp (lp (lp (lp hn _) _) _) _) _)) 2 (97)
  refine x_dup 87 dX7_init_86 rfl rfl ?_
  refine x_iconst 88 dX7_init_87 rfl ?_
  refine x_bipush 90 dX7_init_88 rfl (by decide) ?_
  refine x_iastore 91 dX7_init_90 rfl (gl (lp (lp (lp (lp hn _) _) _) _) _) (by omega) (by omega) ?_
  have hz19 := hz18.up2 (glt (gl (lp (lp (lp (lp hn _) _) _) _) _)) 3 (105)
  refine x_dup 92 dX7_init_91 rfl rfl ?_
  refine x_iconst 93 dX7_init_92 rfl ?_
  refine x_bipush 95 dX7_init_93 rfl (by decide) ?_
  refine x_iastore 96 dX7_init_95 rfl (gl (lp (lp (lp (lp hn _) _) _) _) _) (by omega) (by omega) ?_
  have hz20 := hz19.up2 (glt (gl (lp (lp (lp (lp hn _) _) _) _) _)) 4 (110)
  refine x_dup 97 dX7_init_96 rfl rfl ?_
  refine x_iconst 98 dX7_init_97 rfl ?_
  refine x_bipush 100 dX7_init_98 rfl (by decide) ?_
  refine x_iastore 101 dX7_init_100 rfl (gl (lp (lp (lp (lp hn _) _) _) _) _) (by omega) (by omega) ?_
  have hz21 := hz20.up2 (glt (gl (lp (lp (lp (lp hn _) _) _) _) _)) 5 (112)
  refine x_dup 102 dX7_init_101 rfl rfl ?_
  refine x_bipush 104 dX7_init_102 rfl (by decide) ?_
  refine x_bipush 106 dX7_init_104 rfl (by decide) ?_
  refine x_iastore 107 dX7_init_106 rfl (gl (lp (lp (lp (lp hn _) _) _) _) _) (by omega) (by omega) ?_
  have hz22 := hz21.up2 (glt (gl (lp (lp (lp (lp hn _) _) _) _) _)) 6 (114)
  refine x_dup 108 dX7_init_107 rfl rfl ?_
  refine x_bipush 110 dX7_init_108 rfl (by decide) ?_
  refine x_bipush 112 dX7_init_110 rfl (by decide) ?_
  refine x_iastore 113 dX7_init_112 rfl (gl (lp (lp (lp (lp hn _) _) _) _) _) (by omega) (by omega) ?_
  have hz23 := hz22.up2 (glt (gl (lp (lp (lp (lp hn _) _) _) _) _)) 7 (111)
  refine x_dup 114 dX7_init_113 rfl rfl ?_
  refine x_bipush 116 dX7_init_114 rfl (by decide) ?_
  refine x_bipush 118 dX7_init_116 rfl (by decide) ?_
  refine x_iastore 119 dX7_init_118 rfl (gl (lp (lp (lp (lp hn _) _) _) _) _) (by omega) (by omega) ?_
  have hz24 := hz23.up2 (glt (gl (lp (lp (lp (lp hn _) _) _) _) _)) 8 (117)
  refine x_dup 120 dX7_init_119 rfl rfl ?_
  refine x_bipush 122 dX7_init_120 rfl (by decide) ?_
  refine x_bipush 124 dX7_init_122 rfl (by decide) ?_
  refine x_iastore 125 dX7_init_124 rfl (gl (lp (lp (lp (lp hn _) _) _) _) _) (by omega) (by omega) ?_
  have hz25 := hz24.up2 (glt (gl (lp (lp (lp (lp hn _) _) _) _) _)) 9 (100)
  refine x_dup 126 dX7_init_125 rfl rfl ?_
  refine x_bipush 128 dX7_init_126 rfl (by decide) ?_
  refine x_bipush 130 dX7_init_128 rfl (by decide) ?_
  refine x_iastore 131 dX7_init_130 rfl (gl (lp (lp (lp (lp hn _) _) _) _) _) (by omega) (by omega) ?_
  have hz26 := hz25.up2 (glt (gl (lp (lp (lp (lp hn _) _) _) _) _)) 10 (119)
  refine x_dup 132 dX7_init_131 rfl rfl ?_
  refine x_bipush 134 dX7_init_132 rfl (by decide) ?_
  refine x_bipush 136 dX7_init_134 rfl (by decide) ?_
  refine x_iastore 137 dX7_init_136 rfl (gl (lp (lp (lp (lp hn _) _) _) _) _) (by omega) (by omega) ?_
  have hz27 := hz26.up2 (glt (gl (lp (lp (lp (lp hn _) _) _) _) _)) 11 (105)
  refine x_dup 138 dX7_init_137 rfl rfl ?_
  refine x_bipush 140 dX7_init_138 rfl (by decide) ?_
  refine x_bipush 142 dX7_init_140 rfl (by decide) ?_
  refine x_iastore 143 dX7_init_142 rfl (gl (lp (lp (lp (lp hn _) _) _) _) _) (by omega) (by omega) ?_
  have hz28 := hz27.up2 (glt (gl (lp (lp (lp (lp hn _) _) _) _) _)) 12 (115)
  refine x_dup 144 dX7_init_143 rfl rfl ?_
  refine x_bipush 146 dX7_init_144 rfl (by decide) ?_
  refine x_bipush 148 dX7_init_146 rfl (by decide) ?_
  refine x_iastore 149 dX7_init_148 rfl (gl (lp (lp (lp (lp hn _) _) _) _) _) (by omega) (by omega) ?_
  have hz29 := hz28.up2 (glt (gl (lp (lp (lp (lp hn _) _) _) _) _)) 13 (101)
  refine x_dup 150 dX7_init_149 rfl rfl ?_
  refine x_bipush 152 dX7_init_150 rfl (by decide) ?_
  refine x_bipush 154 dX7_init_152 rfl (by decide) ?_
  refine x_iastore 155 dX7_init_154 rfl (gl (lp (lp (lp (lp hn _) _) _) _) _) (by omega) (by omega) ?_
  have hz30 := hz29.up2 (glt (gl (lp (lp (lp (lp hn _) _) _) _) _)) 14 (99)
  refine x_dup 156 dX7_init_155 rfl rfl ?_
  refine x_bipush 158 dX7_init_156 rfl (by decide) ?_
  refine x_bipush 160 dX7_init_158 rfl (by decide) ?_
  refine x_iastore 161 dX7_init_160 rfl (gl (lp (lp (lp (lp hn _) _) _) _) _) (by omega) (by omega) ?_
  have hz31 := hz30.up2 (glt (gl (lp (lp (lp (lp hn _) _) _) _) _)) 15 (97)
  refine x_dup 162 dX7_init_161 rfl rfl ?_
  refine x_bipush 164 dX7_init_162 rfl (by decide) ?_
  refine x_bipush 166 dX7_init_164 rfl (by decide) ?_
  refine x_iastore 167 dX7_init_166 rfl (gl (lp (lp (lp (lp hn _) _) _) _) _) (by omega) (by omega) ?_
  have hz32 := hz31.up2 (glt (gl (lp (lp (lp (lp hn _) _) _) _) _)) 16 (114)
  refine x_dup 168 dX7_init_167 rfl rfl ?_
  refine x_bipush 170 dX7_init_168 rfl (by decide) ?_
  refine x_bipush 172 dX7_init_170 rfl (by decide) ?_
  refine x_iastore 173 dX7_init_172 rfl (gl (lp (lp (lp (lp hn _) _) _) _) _) (by omega) (by omega) ?_
  have hz33 := hz32.up2 (glt (gl (lp (lp (lp (lp hn _) _) _) _) _)) 17 (101)
  refine x_dup 174 dX7_init_173 rfl rfl ?_
  refine x_bipush 176 dX7_init_174 rfl (by decide) ?_
  refine x_bipush 178 dX7_init_176 rfl (by decide) ?_
  refine x_iastore 179 dX7_init_178 rfl (gl (lp (lp (lp (lp hn _) _) _) _) _) (by omega) (by omega) ?_
  have hz34 := hz33.up2 (glt (gl (lp (lp (lp (lp hn _) _) _) _) _)) 18 (108)
  refine x_dup 180 dX7_init_179 rfl rfl ?_
  refine x_bipush 182 dX7_init_180 rfl (by decide) ?_
  refine x_bipush 184 dX7_init_182 rfl (by decide) ?_
  refine x_iastore 185 dX7_init_184 rfl (gl (lp (lp (lp (lp hn _) _) _) _) _) (by omega) (by omega) ?_
  have hz35 := hz34.up2 (glt (gl (lp (lp (lp (lp hn _) _) _) _) _)) 19 (101)
  refine x_dup 186 dX7_init_185 rfl rfl ?_
  refine x_bipush 188 dX7_init_186 rfl (by decide) ?_
  refine x_bipush 190 dX7_init_188 rfl (by decide) ?_
  refine x_iastore 191 dX7_init_190 rfl (gl (lp (lp (lp (lp hn _) _) _) _) _) (by omega) (by omega) ?_
  have hz36 := hz35.up2 (glt (gl (lp (lp (lp (lp hn _) _) _) _) _)) 20 (115)
  refine x_dup 192 dX7_init_191 rfl rfl ?_
  refine x_bipush 194 dX7_init_192 rfl (by decide) ?_
  refine x_bipush 196 dX7_init_194 rfl (by decide) ?_
  refine x_iastore 197 dX7_init_196 rfl (gl (lp (lp (lp (lp hn _) _) _) _) _) (by omega) (by omega) ?_
  have hz37 := hz36.up2 (glt (gl (lp (lp (lp (lp hn _) _) _) _) _)) 21 (115)
  refine x_dup 198 dX7_init_197 rfl rfl ?_
  refine x_bipush 200 dX7_init_198 rfl (by decide) ?_
  refine x_bipush 202 dX7_init_200 rfl (by decide) ?_
  refine x_iastore 203 dX7_init_202 rfl (gl (lp (lp (lp (lp hn _) _) _) _) _) (by omega) (by omega) ?_
  have hz38 := hz37.up2 (glt (gl (lp (lp (lp (lp hn _) _) _) _) _)) 22 (103)
  refine x_dup 204 dX7_init_203 rfl rfl ?_
  refine x_bipush 206 dX7_init_204 rfl (by decide) ?_
  refine x_bipush 208 dX7_init_206 rfl (by decide) ?_
  refine x_iastore 209 dX7_init_208 rfl (gl (lp (lp (lp (lp hn _) _) _) _) _) (by omega) (by omega) ?_
  have hz39 := hz38.up2 (glt (gl (lp (lp (lp (lp hn _) _) _) _) _)) 23 (97)
  refine x_dup 210 dX7_init_209 rfl rfl ?_
  refine x_bipush 212 dX7_init_210 rfl (by decide) ?_
  refine x_bipush 214 dX7_init_212 rfl (by decide) ?_
  refine x_iastore 215 dX7_init_214 rfl (gl (lp (lp (lp (lp hn _) _) _) _) _) (by omega) (by omega) ?_
  have hz40 := hz39.up2 (glt (gl (lp (lp (lp (lp hn _) _) _) _) _)) 24 (109)
  refine x_dup 216 dX7_init_215 rfl rfl ?_
  refine x_bipush 218 dX7_init_216 rfl (by decide) ?_
  refine x_bipush 220 dX7_init_218 rfl (by decide) ?_
  refine x_iastore 221 dX7_init_220 rfl (gl (lp (lp (lp (lp hn _) _) _) _) _) (by omega) (by omega) ?_
  have hz41 := hz40.up2 (glt (gl (lp (lp (lp (lp hn _) _) _) _) _)) 25 (101)
  refine x_putR 224 15 dX7_init_221 rfl fX7_22 (by decide +kernel) (by decide +kernel) (by decide +kernel) (by decide +kernel) (gp (gp (gp (gp (gp hs _) _) _) _) _) ?_
  have hz42 := hz41.upr (glt (gp (gp (gp (gp (gp hs _) _) _) _) _)) 15 (some (n + 1 + 1 + 1 + 1))
  refine x_aload_n 225 0 dX7_init_224 rfl rfl (by decide) rfl ?_
  refine x_bipush 227 dX7_init_225 rfl (by decide) ?_
  refine x_putI 230 19 19 rfl dX7_init_227 rfl fX7_25 rfl rfl (gp (gp (gp (gp (gp hs _) _) _) _) _) (by omega) ?_
  have hz43 := hz42.up2 (glt (gp (gp (gp (gp (gp hs _) _) _) _) _)) 19 (-4)
  refine x_aload_n 231 0 dX7_init_230 rfl rfl (by decide) rfl ?_
  refine x_iconst 232 dX7_init_231 rfl ?_
  refine x_newI 234 (N := 5) (lp (lp (lp (lp (lp hn _) _) _) _) _) rfl (by decide) hz43 ⟨Nat.le_of_ble_eq_true rfl, Nat.le_of_ble_eq_true rfl⟩ dX7_init_232 rfl ?_
  have hz44 := hz43.push (.inr (0, 5))
  refine x_putR 237 20 dX7_init_234 rfl fX7_29 (by decide +kernel) (by decide +kernel) (by decide +kernel) (by decide +kernel) (gp (gp (gp (gp (gp (gp hs _) _) _) _) _) _) ?_
  have hz45 := hz44.upr (glt (gp (gp (gp (gp (gp (gp hs _) _) _) _) _) _)) 20 (some (n + 1 + 1 + 1 + 1 + 1))
  refine x_aload_n 238 0 dX7_init_237 rfl rfl (by decide) rfl ?_
  refine x_bipush 240 dX7_init_238 rfl (by decide) ?_
  refine x_newI 242 (N := 12) (lp (lp (lp (lp (lp (lp hn _) _) _) _) _) _) rfl (by decide) hz45 ⟨Nat.le_of_ble_eq_true rfl, Nat.le_of_ble_eq_true rfl⟩ dX7_init_240 rfl ?_
  have hz46 := hz45.push (.inr (0, 12))
  refine x_putR 245 21 dX7_init_242 rfl fX7_32 (by decide +kernel) (by decide +kernel) (by decide +kernel) (by decide +kernel) (gp (gp (gp (gp (gp (gp (gp hs _) _) _) _) _) _) _) ?_
  have hz47 := hz46.upr (glt (gp (gp (gp (gp (gp (gp (gp hs _) _) _) _) _) _) _)) 21 (some (n + 1 + 1 + 1 + 1 + 1 + 1))
  refine x_aload_n 246 0 dX7_init_245 rfl rfl (by decide) rfl ?_
  refine x_sipush 249 dX7_init_246 rfl (by decide) ?_
  refine x_newI 251 (N := 441) (lp (lp (lp (lp (lp (lp (lp hn _) _) _) _) _) _) _) rfl (by decide) hz47 ⟨Nat.le_of_ble_eq_true rfl, Nat.le_of_ble_eq_true rfl⟩ dX7_init_249 rfl ?_
  have hz48 := hz47.push (.inr (0, 441))
  refine x_putR 254 23 dX7_init_251 rfl fX7_35 (by decide +kernel) (by decide +kernel) (by decide +kernel) (by decide +kernel) (gp (gp (gp (gp (gp (gp (gp (gp hs _) _) _) _) _) _) _) _) ?_
  have hz49 := hz48.upr (glt (gp (gp (gp (gp (gp (gp (gp (gp hs _) _) _) _) _) _) _) _)) 23 (some (n + 1 + 1 + 1 + 1 + 1 + 1 + 1))
  refine x_aload_n 255 0 dX7_init_254 rfl rfl (by decide) rfl ?_
  refine x_iconst 256 dX7_init_255 rfl ?_
  refine x_newZ 258 (N := 2) (lp (lp (lp (lp (lp (lp (lp (lp hn _) _) _) _) _) _) _) _) rfl (by decide) hz49 ⟨Nat.le_of_ble_eq_true rfl, Nat.le_of_ble_eq_true rfl⟩ dX7_init_256 rfl ?_
  have hz50 := hz49.push (.inr (2, 2))
  refine x_putR 261 24 dX7_init_258 rfl fX7_38 (by decide +kernel) (by decide +kernel) (by decide +kernel) (by decide +kernel) (gp (gp (gp (gp (gp (gp (gp (gp (gp hs _) _) _) _) _) _) _) _) _) ?_
  have hz51 := hz50.upr (glt (gp (gp (gp (gp (gp (gp (gp (gp (gp hs _) _) _) _) _) _) _) _) _)) 24 (some (n + 1 + 1 + 1 + 1 + 1 + 1 + 1 + 1))
  refine x_aload_n 262 0 dX7_init_261 rfl rfl (by decide) rfl ?_
  refine x_iconst 263 dX7_init_262 rfl ?_
  refine x_newI 265 (N := 4) (lp (lp (lp (lp (lp (lp (lp (lp (lp hn _) _) _) _) _) _) _) _) _) rfl (by decide) hz51 ⟨Nat.le_of_ble_eq_true rfl, Nat.le_of_ble_eq_true rfl⟩ dX7_init_263 rfl ?_
  have hz52 := hz51.push (.inr (0, 4))
  refine x_dup 266 dX7_init_265 rfl rfl ?_
  refine x_iconst 267 dX7_init_266 rfl ?_
  refine x_bipush 269 dX7_init_267 rfl (by decide) ?_
  refine x_iastore 270 dX7_init_269 rfl (gl (lp (lp (lp (lp (lp (lp (lp (lp (lp hn _) _) _) _) _) _) _) _) _) _) (by omega) (by omega) ?_
  have hz53 := hz52.up2 (glt (gl (lp (lp (lp (lp (lp (lp (lp (lp (lp hn _) _) _) _) _) _) _) _) _) _)) 0 (-4)
  refine x_dup 271 dX7_init_270 rfl rfl ?_
  refine x_iconst 272 dX7_init_271 rfl ?_
  refine x_bipush 274 dX7_init_272 rfl (by decide) ?_
  refine x_iastore 275 dX7_init_274 rfl (gl (lp (lp (lp (lp (lp (lp (lp (lp (lp hn _) _) _) _) _) _) _) _) _) _) (by omega) (by omega) ?_
  have hz54 := hz53.up2 (glt (gl (lp (lp (lp (lp (lp (lp (lp (lp (lp hn _) _) _) _) _) _) _) _) _) _)) 1 (-4)
  refine x_dup 276 dX7_init_275 rfl rfl ?_
  refine x_iconst 277 dX7_init_276 rfl ?_
  refine x_bipush 279 dX7_init_277 rfl (by decide) ?_
  refine x_iastore 280 dX7_init_279 rfl (gl (lp (lp (lp (lp (lp (lp (lp (lp (lp hn _) _) _) _) _) _) _) _) _) _) (by omega) (by omega) ?_
  have hz55 := hz54.up2 (glt (gl (lp (lp (lp (lp (lp (lp (lp (lp (lp hn _) _) _) _) _) _) _) _) _) _)) 2 (-4)
  refine x_dup 281 dX7_init_280 rfl rfl ?_
  refine x_iconst 282 dX7_init_281 rfl ?_
  refine x_bipush 284 dX7_init_282 rfl (by decide) ?_
  refine x_iastore 285 dX7_init_284 rfl (gl (lp (lp (lp (lp (lp (lp (lp (lp (lp hn _) _) _) _) _) _) _) _) _) _) (by omega) (by omega) ?_
  have hz56 := hz55.up2 (glt (gl (lp (lp (lp (lp (lp (lp (lp (lp (lp hn _) _) _) _) _) _) _) _) _) _)) 3 (-4)
  refine x_putR 288 25 dX7_init_285 rfl fX7_42 (by decide +kernel) (by decide +kernel) (by decide +kernel) (by decide +kernel) (gp (gp (gp (gp (gp (gp (gp (gp (gp (gp hs _) _) _) _) _) _) _) _) _) _) ?_
  have hz57 := hz56.upr (glt (gp (gp (gp (gp (gp (gp (gp (gp (gp (gp hs _) _) _) _) _) _) _) _) _) _)) 25 (some (n + 1 + 1 + 1 + 1 + 1 + 1 + 1 + 1 + 1))
  refine x_aload_n 289 0 dX7_init_288 rfl rfl (by decide) rfl ?_
  refine x_iconst 290 dX7_init_289 rfl ?_
  refine x_newI 292 (N := 4) (lp (lp (lp (lp (lp (lp (lp (lp (lp (lp hn _) _) _) _) _) _) _) _) _) _) rfl (by decide) hz57 ⟨Nat.le_of_ble_eq_true rfl, Nat.le_of_ble_eq_true rfl⟩ dX7_init_290 rfl ?_
  have hz58 := hz57.push (.inr (0, 4))
  refine x_putR 295 26 dX7_init_292 rfl fX7_45 (by decide +kernel) (by decide +kernel) (by decide +kernel) (by decide +kernel) (gp (gp (gp (gp (gp (gp (gp (gp (gp (gp (gp hs _) _) _) _) _) _) _) _) _) _) _) ?_
  have hz59 := hz58.upr (glt (gp (gp (gp (gp (gp (gp (gp (gp (gp (gp (gp hs _) _) _) _) _) _) _) _) _) _) _)) 26 (some (n + 1 + 1 + 1 + 1 + 1 + 1 + 1 + 1 + 1 + 1))
  refine x_aload_n 296 0 dX7_init_295 rfl rfl (by decide) rfl ?_
  refine x_sipush 299 dX7_init_296 rfl (by decide) ?_
  refine x_newI 301 (N := 160) (lp (lp (lp (lp (lp (lp (lp (lp (lp (lp (lp hn _) _) _) _) _) _) _) _) _) _) _) rfl (by decide) hz59 ⟨Nat.le_of_ble_eq_true rfl, Nat.le_of_ble_eq_true rfl⟩ dX7_init_299 rfl ?_
  have hz60 := hz59.push (.inr (0, 160))
  refine x_putR 304 27 dX7_init_301 rfl fX7_48 (by decide +kernel) (by decide +kernel) (by decide +kernel) (by decide +kernel) (gp (gp (gp (gp (gp (gp (gp (gp (gp (gp (gp (gp hs _) _) _) _) _) _) _) _) _) _) _) _) ?_
  have hz61 := hz60.upr (glt (gp (gp (gp (gp (gp (gp (gp (gp (gp (gp (gp (gp hs _) _) _) _) _) _) _) _) _) _) _) _)) 27 (some (n + 1 + 1 + 1 + 1 + 1 + 1 + 1 + 1 + 1 + 1 + 1))
  refine x_vret dX7_init_304 rfl ⟨rfl, Nat.le_of_ble_eq_true rfl⟩ ?_
  exact ⟨rfl, rfl, hz61⟩
