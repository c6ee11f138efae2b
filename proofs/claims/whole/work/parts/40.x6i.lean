theorem uV_self (s : ST) : uV s (sV s) = s := rfl
def pfl (z l ln p : Int) : Int := if z = -1 then 1 else if ln ≠ l then 3 else if 0 ≤ p ∧ p + 1 < z then 0 else 2
theorem pfl_b (z l ln p : Int) : 0 ≤ pfl z l ln p ∧ pfl z l ln p ≤ 3 := by
  unfold pfl
  repeat' split
  all_goals omega
theorem pfl_0 {z l ln p : Int} (h : pfl z l ln p = 0) : z ≠ -1 ∧ ln = l ∧ 0 ≤ p ∧ p + 1 < z := by
  unfold pfl at h
  split at h
  · omega
  · split at h
    · omega
    · split at h
      · omega
      · omega
/-- fixtures read of a sheet: the answer, the fault (-1: as it was), the league -/
def rdG (z l : Int) (c : Int → Int) (ln f : Int) (v0 : LV) : Nat → Nat → LV → Int × Int × LV
  | 0, i, v => (i, 0, v)
  | k + 1, i, v => if pfl z l ln (f + 2 * (i : Int)) ≠ 0 then (i, pfl z l ln (f + 2 * (i : Int)), v) else if bookR v (c (f + 2 * (i : Int))) (c (f + 2 * (i : Int) + 1)) < 0 then (-20 - (i : Int), -1, v0) else rdG z l c ln f v0 k (i + 1) (bookV v (c (f + 2 * (i : Int))) (c (f + 2 * (i : Int) + 1)))
def rdS (s : ST) (k ln f n : Int) : Int × Int × LV := rdG (zz s k.toNat) (zl s k.toNat) (zc s k.toNat) ln f (sV s) n.toNat 0 (sV s)
def aRead (s : ST) (k ln f n : Int) : Int := if (0 ≤ k ∧ k ≤ 3) ∧ (0 ≤ ln ∧ ln ≤ 2) ∧ (0 ≤ n ∧ n ≤ 20) then (rdS s k ln f n).1 else -1
def nRead (s : ST) (k ln f n : Int) : ST := if (0 ≤ k ∧ k ≤ 3) ∧ (0 ≤ ln ∧ ln ≤ 2) ∧ (0 ≤ n ∧ n ≤ 20) then (if (rdS s k ln f n).2.1 = -1 then s else uN (uV s (rdS s k ln f n).2.2) (rdS s k ln f n).2.1) else s
/-- v with fixtures more -/
def Ext (v w : LV) (i : Int) : Prop := vn w = vn v ∧ vf w = vf v + i ∧ vw w = vw v ∧ vK w = vK v ∧ vS w = vS v ∧ vL w = vL v ∧ vO w = vO v ∧ (∀ p, 0 ≤ p → p < vf v → vA w p = vA v p ∧ vB w p = vB v p) ∧ (∀ p, vf v ≤ p → p < vf v + i → (0 ≤ vA w p ∧ vA w p < vn v) ∧ (0 ≤ vB w p ∧ vB w p < vn v) ∧ vA w p ≠ vB w p)
theorem Ext_0 (v : LV) : Ext v v 0 := ⟨rfl, by omega, rfl, rfl, rfl, rfl, rfl, fun _ _ _ => ⟨rfl, rfl⟩, fun p a b => by omega⟩
theorem book_ok {v : LV} {a b : Int} (hf : 0 ≤ vf v) (h : ¬ bookR v a b < 0) : bookV v a b = addF v a b ∧ pairB v a b = true ∧ vf v < 10 := by
  unfold bookR at h
  split at h
  · next hp =>
    unfold addR at h
    split at h
    · omega
    · next h10 =>
      refine ⟨?_, hp, by omega⟩
      unfold bookV addV
      rw [if_pos hp, if_neg h10]
  · omega
theorem book_no {v : LV} {a b : Int} (hf : 0 ≤ vf v) (h : bookR v a b < 0) : bookV v a b = v := by
  unfold bookR at h
  unfold bookV
  split at h
  · next hp =>
    rw [if_pos hp]
    unfold addR at h
    unfold addV
    split at h
    · next h10 => rw [if_pos h10]
    · omega
  · next hp => rw [if_neg hp]
theorem bookR_b {v : LV} {a b : Int} (hf : 0 ≤ vf v ∧ vf v ≤ 10) : -3 ≤ bookR v a b ∧ bookR v a b ≤ 11 := by
  unfold bookR addR
  repeat' split
  all_goals omega
theorem Ext_s {v w : LV} {i a b : Int} (h : Ext v w i) (hf : 0 ≤ vf v) (hi : 0 ≤ i) (hb : ¬ bookR w a b < 0) : Ext v (bookV w a b) (i + 1) ∧ vf w < 10 := by
  obtain ⟨h1, h2, h3, h4, h5, h6, h7, h8, h9⟩ := h
  obtain ⟨e, hp, h10⟩ := book_ok (by omega) hb
  rw [e]
  have hp2 := of_decide_eq_true hp
  rw [h1] at hp2
  refine ⟨⟨h1, ?_, h3, h4, h5, h6, h7, fun p x y => ?_, fun p x y => ?_⟩, h10⟩
  · show vf w + 1 = vf v + (i + 1)
    omega
  · show fu (vA w) (vf w) a p = vA v p ∧ fu (vB w) (vf w) b p = vB v p
    rw [fu_n _ _ (by omega), fu_n _ _ (by omega)]; exact h8 p x y
  · show (0 ≤ fu (vA w) (vf w) a p ∧ fu (vA w) (vf w) a p < vn v) ∧ (0 ≤ fu (vB w) (vf w) b p ∧ fu (vB w) (vf w) b p < vn v) ∧ fu (vA w) (vf w) a p ≠ fu (vB w) (vf w) b p
    by_cases e2 : p = vf w
    · rw [e2, fu_s, fu_s]; exact hp2
    · rw [fu_n _ _ e2, fu_n _ _ e2]; exact h9 p x (by omega)
theorem Ext_WF {v w : LV} {i : Int} (h : Ext v w i) (hv : WF v) (hi : 0 ≤ i) (h10 : vf w ≤ 10) : WF w := by
  obtain ⟨h1, h2, h3, h4, h5, h6, h7, h8, h9⟩ := h
  obtain ⟨a1, a2, a3, a4, a5⟩ := hv
  refine ⟨by rw [h1]; exact a1, by omega, by omega, fun t x y => ?_, fun p x y => ?_⟩
  · rw [h4, h5, h6, h7]; exact a4 t x (by omega)
  · by_cases e : p < vf v
    · rw [(h8 p x e).1, (h8 p x e).2, h1]; exact a5 p x e
    · rw [h1]; exact h9 p (by omega) (by omega)
theorem Ext_back {M : Mem} {o : Nat} {v w : LV} {i : Int} (h : Ext v w i) (hR : Rep M o w) (hi : 0 ≤ i) : Rep (up2 M o 7 (vf v)) o v := by
  obtain ⟨h1, h2, h3, h4, h5, h6, h7, h8, h9⟩ := h
  refine Rep.ext (Rep_F hR (vf v) (by omega)) h1.symm rfl h3.symm (fun t x y => ?_) (fun p x y => ?_)
  · show vK v t = vK w t ∧ vS v t = vS w t ∧ vL v t = vL w t ∧ vO v t = vO w t
    rw [h4, h5, h6, h7]; exact ⟨rfl, rfl, rfl, rfl⟩
  · have y : p < vf v := y
    exact ⟨(h8 p x y).1.symm, (h8 p x y).2.symm⟩
theorem Cls.uN {M : Mem} {s : ST} (x : Int) (hC : Cls M s) : Cls (up2 M 0 12 x) (uN s x) := by
  obtain ⟨h1, ⟨h2, h3, h4, h5⟩, h6, h7, h8, h9, h10⟩ := hC
  have z : ∀ a, a ≠ 0 → up2 M 0 12 x a = M a := fun a ha => up2_o _ _ _ ha
  have g1 : Rep (up2 M 0 12 x) 4 (sV s) := h1.keep (fun a _ _ => z a (by omega))
  have g4 : k0 s = 1 → Rep (up2 M 0 12 x) 28 (i0 s) := fun q => (h4 q).keep (fun a _ _ => z a (by omega))
  have g5 : k1 s = 1 → Rep (up2 M 0 12 x) 35 (i1 s) := fun q => (h5 q).keep (fun a _ _ => z a (by omega))
  have g2 : up2 M 0 12 x 19 0 = k0 s := by rw [z 19 (by omega)]; exact h2
  have g3 : up2 M 0 12 x 19 1 = k1 s := by rw [z 19 (by omega)]; exact h3
  have g6 : up2 M 0 12 x 2 1 = tl s ∧ ∀ i, 0 ≤ i → i < tl s → up2 M 0 12 x 3 i = tb s i := by rw [z 2 (by omega), z 3 (by omega)]; exact h6
  have g7 : up2 M 0 12 x 21 2 = sc s ∧ ∀ i, 0 ≤ i → i < sc s → up2 M 0 12 x 22 i = sw s i ∧ up2 M 0 12 x 23 i = sl s i := by rw [z 21 (by omega), z 22 (by omega), z 23 (by omega)]; exact h7
  have g8 : ∀ k, k < 4 → up2 M 0 12 x (42 + 2 * k) 2 = zz s k ∧ (zz s k ≠ -1 → up2 M 0 12 x (42 + 2 * k) 1 = zl s k) ∧ ∀ i, 0 ≤ i → i < zz s k → up2 M 0 12 x (43 + 2 * k) i = zc s k i := fun k hk => by
    rw [z (42 + 2 * k) (by omega), z (43 + 2 * k) (by omega)]; exact h8 k hk
  have g10 : up2 M 0 12 x 1 5 = fa s := by rw [z 1 (by omega)]; exact h10
  exact ⟨g1, ⟨g2, g3, g4, g5⟩, g6, g7, g8, up2_s _ _ _ _, g10⟩
theorem PC.lgN {M M2 : Mem} {r r0 x : Int} {s : ST} {v : LV} (hC : Cls M s) (h : r = r0) (hR : Rep M2 4 v) (hF : Fr 4 M M2) : PC M r0 (uN (uV s v) x) r (up2 M2 0 12 x) :=
  ⟨h, Cls.uN x (hC.uV hR hF), fun a ha => (up2_o _ _ _ (by omega)).trans (hF a (by omega))⟩

set_option maxHeartbeats 4000000 in
theorem p_read {g : GG} {M : Mem} {s : ST} (hC : Cls M s) (hO : SOK s) (k l f n : Int) (hk : -2147483648 ≤ k ∧ k ≤ 2147483647) (hl : -2147483648 ≤ l ∧ l ≤ 2147483647) (hf : -2147483648 ≤ f ∧ f ≤ 2147483647) (hn : -2147483648 ≤ n ∧ n ≤ 2147483647) : CI g tX6_read 3 [rv g 0, iv k, iv l, iv f, iv n] M (PC M (aRead s k l f n) (nRead s k l f n)) := by
  refine Con.of [some (rv g 0), some (iv k), some (iv l), some (iv f), some (iv n), none, none, none, none] (by decide +kernel) rfl (Nat.le_of_ble_eq_true rfl) ?_
  obtain ⟨hV, ⟨hk0, hk1, hi0, hi1⟩, ⟨hT1, hT2⟩, ⟨hS1, hS2⟩, hZ, hN, hF⟩ := id hC
  obtain ⟨oV, oW, oI0, oI1, oT, oTb, oS, oSb, oZ⟩ := id hO
  obtain ⟨e6, e7, e8, e4, e5⟩ := id hV
  have o1 := oV.1
  have o2 := oV.2.1
  have o3 := oV.2.2.1
  refine x_iload_n 1 1 dX6_read_0 rfl rfl (by decide) rfl ?_
  refine x_iconst 2 dX6_read_1 rfl ?_
  refine x_sp 5 [_, _] (c_within _ _ (by omega) (by omega)) mX6_within kX6_70 dX6_read_2 rfl rfl rfl (Nat.le_of_ble_eq_true rfl) (by decide) ?_
  refine x_ifeq_b 26 8 dX6_read_5 (by decide) rfl (fun h5 => ?_) (fun h5 => ?_)
  · refine x_iconst 27 dX6_read_26 rfl ?_
    refine x_iret dX6_read_27 rfl ⟨rfl, Nat.le_refl _⟩ (qi_i ?_)
    have y1 : aRead s k l f n = -1 := by (unfold aRead; rw [if_neg (by omega)])
    have y2 : nRead s k l f n = s := by (unfold nRead; rw [if_neg (by omega)])
    rw [y1, y2]; exact PC.same hC rfl
  · refine x_iload_n 9 2 dX6_read_8 rfl rfl (by decide) rfl ?_
    refine x_iconst 10 dX6_read_9 rfl ?_
    refine x_sp 13 [_, _] (c_within _ _ (by omega) (by omega)) mX6_within kX6_70 dX6_read_10 rfl rfl rfl (Nat.le_of_ble_eq_true rfl) (by decide) ?_
    refine x_ifeq_b 26 16 dX6_read_13 (by decide) rfl (fun h13 => ?_) (fun h13 => ?_)
    · refine x_iconst 27 dX6_read_26 rfl ?_
      refine x_iret dX6_read_27 rfl ⟨rfl, Nat.le_refl _⟩ (qi_i ?_)
      have y1 : aRead s k l f n = -1 := by (unfold aRead; rw [if_neg (by omega)])
      have y2 : nRead s k l f n = s := by (unfold nRead; rw [if_neg (by omega)])
      rw [y1, y2]; exact PC.same hC rfl
    · refine x_iload 18 4 dX6_read_16 rfl (by decide) rfl ?_
      refine x_bipush 20 dX6_read_18 rfl (by decide) ?_
      refine x_sp 23 [_, _] (c_within _ _ (by omega) (by omega)) mX6_within kX6_70 dX6_read_20 rfl rfl rfl (Nat.le_of_ble_eq_true rfl) (by decide) ?_
      refine x_ifne_b 28 26 dX6_read_23 (by decide) rfl (fun h23 => ?_) (fun h23 => ?_)
      · obtain ⟨K, rfl⟩ := Int.eq_ofNat_of_zero_le (show 0 ≤ k by omega)
        have hK : K < 4 := by omega
        have hq := isSt_k hK
        have hj := R0_20 hK
        obtain ⟨z2, z1, zc3⟩ := hZ K hK
        obtain ⟨oz, ol, oc⟩ := oZ K hK
        obtain ⟨N, rfl⟩ := Int.eq_ofNat_of_zero_le (show 0 ≤ n by omega)
        have hA : ∀ r : Int × Int × LV, rdS s K l f N = r → aRead s K l f N = r.1 ∧ nRead s K l f N = (if r.2.1 = -1 then s else uN (uV s r.2.2) r.2.1) := fun r hr => by (unfold aRead nRead; rw [if_pos (by omega), if_pos (by omega), hr]; exact ⟨rfl, rfl⟩)
        have hrs : rdS s K l f N = rdG (zz s K) (zl s K) (zc s K) l f (sV s) N 0 (sV s) := by (unfold rdS; rw [Int.toNat_natCast, Int.toNat_natCast])
        have loop : ∀ (c i : Nat) (v : LV) (M2 : Mem) (j7 j8 : Option Value), i + c = N → Ext (sV s) v i → vf v ≤ 10 → Rep M2 4 v → Fr 4 M M2 → (i = 0 ∨ (0 ≤ f ∧ f < 40)) → rdG (zz s K) (zl s K) (zc s K) l f (sV s) c i v = rdS s K l f N → X g tX6_read (kk0 3) 40 [some (rv g 0), some (iv K), some (iv l), some (iv f), some (iv N), some (iv (vf (sV s))), some (iv i), j7, j8] [] (S0, R0, M2) (QI (PC M (aRead s K l f N) (nRead s K l f N))) := by
          intro c
          induction c with
          | zero =>
            intro i v M2 j7 j8 hi hE h10 hR2 hF2 hf0 hr
            obtain ⟨y1, y2⟩ := hA _ hr.symm
            refine x_iload 42 6 dX6_read_40 rfl (by decide) rfl ?_
            refine x_iload 44 4 dX6_read_42 rfl (by decide) rfl ?_
            refine x_icmp_ge 140 47 dX6_read_44 (by decide) rfl (by omega) (fun h44 => ?_) (fun h44 => ?_)
            · refine x_aload_n 141 0 dX6_read_140 rfl rfl (by decide) rfl ?_
              refine x_iconst 142 dX6_read_141 rfl ?_
              refine x_putI 145 12 12 rfl dX6_read_142 rfl fX6_287 rfl rfl rfl (by omega) ?_
              refine x_iload 147 4 dX6_read_145 rfl (by decide) rfl ?_
              refine x_iret dX6_read_147 rfl ⟨rfl, Nat.le_refl _⟩ (qi_i ?_)
              rw [y1, y2]
              rw [if_neg (by show ¬ (0 : Int) = -1; omega)]
              exact PC.lgN hC (by show (N : Int) = (i : Int); omega) hR2 hF2
            · exfalso; omega
          | succ c ih =>
            intro i v M2 j7 j8 hi hE h10 hR2 hF2 hf0 hr
            have hst : rdG (zz s K) (zl s K) (zc s K) l f (sV s) (c + 1) i v = if pfl (zz s K) (zl s K) l (f + 2 * (i : Int)) ≠ 0 then ((i : Int), pfl (zz s K) (zl s K) l (f + 2 * (i : Int)), v) else if bookR v (zc s K (f + 2 * (i : Int))) (zc s K (f + 2 * (i : Int) + 1)) < 0 then (-20 - (i : Int), -1, sV s) else rdG (zz s K) (zl s K) (zc s K) l f (sV s) c (i + 1) (bookV v (zc s K (f + 2 * (i : Int))) (zc s K (f + 2 * (i : Int) + 1))) := rfl
            rw [hst] at hr
            have pb := pfl_b (zz s K) (zl s K) l (f + 2 * (i : Int))
            have f2 : M2 (42 + 2 * K) 2 = zz s K := by rw [hF2 _ (by omega)]; exact z2
            have f1 : zz s K ≠ -1 → M2 (42 + 2 * K) 1 = zl s K := fun h => by rw [hF2 _ (by omega)]; exact z1 h
            have hpf : True → (if M2 (42 + 2 * K) 2 = -1 then (1 : Int) else if l ≠ M2 (42 + 2 * K) 1 then 3 else if 0 ≤ f + 2 * (i : Int) ∧ f + 2 * (i : Int) + 1 < M2 (42 + 2 * K) 2 then 0 else 2) = pfl (zz s K) (zl s K) l (f + 2 * (i : Int)) := by
              intro _; unfold pfl; rw [f2]
              by_cases e : zz s K = -1
              · rw [if_pos e, if_pos e]
              · rw [if_neg e, if_neg e, f1 e]
            have bb := bookR_b (v := v) (a := zc s K (f + 2 * (i : Int))) (b := zc s K (f + 2 * (i : Int) + 1)) (by have := hE.2.1; omega)
            refine x_iload 42 6 dX6_read_40 rfl (by decide) rfl ?_
            refine x_iload 44 4 dX6_read_42 rfl (by decide) rfl ?_
            refine x_icmp_ge 140 47 dX6_read_44 (by decide) rfl (by omega) (fun h44 => ?_) (fun h44 => ?_)
            · exfalso; omega
            · refine x_iload_n 48 3 dX6_read_47 rfl rfl (by decide) rfl ?_
              refine x_iconst 49 dX6_read_48 rfl ?_
              refine x_iload 51 6 dX6_read_49 rfl (by decide) rfl ?_
              refine x_imul 52 dX6_read_51 rfl ?_
              refine x_iadd 53 dX6_read_52 rfl ?_
              refine x_istore 55 7 _ dX6_read_53 rfl (by decide) rfl rfl ?_
              refine x_aload_n 56 0 dX6_read_55 rfl rfl (by decide) rfl ?_
              refine x_getR 59 6 20 dX6_read_56 rfl fX6_41 rfl rfl rfl ?_
              refine x_iload_n 60 1 dX6_read_59 rfl rfl (by decide) rfl ?_
              refine x_aaload 61 (42 + 2 * K) (by decide) dX6_read_60 rfl rfl (by omega) hj ?_
              refine x_iload_n 62 2 dX6_read_61 rfl rfl (by decide) rfl ?_
              refine x_iload 64 7 dX6_read_62 rfl (by decide) rfl ?_
              refine x_vp 67 [_, _] (by have z := c_pairFault (g := g) (M := M2) hq (by rw [f2]; omega) l (f + 2 * (i : Int)) (by omega) (by omega); rw [hpf trivial] at z; exact z) mX2_pairFault kX6_284 dX6_read_64 rfl (st_s hq) ⟨by decide, rfl⟩ rfl rfl (Nat.le_of_ble_eq_true rfl) (by decide) ?_
              refine x_istore 69 8 _ dX6_read_67 rfl (by decide) rfl rfl ?_
              refine x_iload 71 8 dX6_read_69 rfl (by decide) rfl ?_
              refine x_if_eq 83 74 dX6_read_71 (by decide) rfl (by omega) (fun h71 => ?_) (fun h71 => ?_)
              · have hp0 : pfl (zz s K) (zl s K) l (f + 2 * (i : Int)) = 0 := by omega
                have pz := pfl_0 hp0
                rw [if_neg (by omega)] at hr
                have c0 : M2 (42 + 2 * K + 1) (f + 2 * (i : Int)) = zc s K (f + 2 * (i : Int)) := by rw [hF2 (42 + 2 * K + 1) (by omega), show 42 + 2 * K + 1 = 43 + 2 * K by omega]; exact zc3 (f + 2 * (i : Int)) pz.2.2.1 (by have := pz.2.2.2; omega)
                have c1 : M2 (42 + 2 * K + 1) (f + 2 * (i : Int) + 1) = zc s K (f + 2 * (i : Int) + 1) := by rw [hF2 (42 + 2 * K + 1) (by omega), show 42 + 2 * K + 1 = 43 + 2 * K by omega]; exact zc3 (f + 2 * (i : Int) + 1) (by have := pz.2.2.1; omega) pz.2.2.2
                have r0 := oc (f + 2 * (i : Int)) (by omega) (by omega)
                have r1 := oc (f + 2 * (i : Int) + 1) (by omega) (by omega)
                refine x_aload_n 84 0 dX6_read_83 rfl rfl (by decide) rfl ?_
                refine x_getR 87 2 4 dX6_read_84 rfl fX6_24 rfl rfl rfl ?_
                refine x_aload_n 88 0 dX6_read_87 rfl rfl (by decide) rfl ?_
                refine x_getR 91 6 20 dX6_read_88 rfl fX6_41 rfl rfl rfl ?_
                refine x_iload_n 92 1 dX6_read_91 rfl rfl (by decide) rfl ?_
                refine x_aaload 93 (42 + 2 * K) (by decide) dX6_read_92 rfl rfl (by omega) hj ?_
                refine x_getR 96 0 ((42 + 2 * K) + 1) dX6_read_93 rfl fX6_290 rfl (st_s hq) (st_r0 hq) ?_
                refine x_iload 98 7 dX6_read_96 rfl (by decide) rfl ?_
                refine x_iaload 99 dX6_read_98 rfl (st_a0 hq) (by omega) (fun g98 => ?_)
                rw [c0]
                refine x_aload_n 100 0 dX6_read_99 rfl rfl (by decide) rfl ?_
                refine x_getR 103 6 20 dX6_read_100 rfl fX6_41 rfl rfl rfl ?_
                refine x_iload_n 104 1 dX6_read_103 rfl rfl (by decide) rfl ?_
                refine x_aaload 105 (42 + 2 * K) (by decide) dX6_read_104 rfl rfl (by omega) hj ?_
                refine x_getR 108 0 ((42 + 2 * K) + 1) dX6_read_105 rfl fX6_290 rfl (st_s hq) (st_r0 hq) ?_
                refine x_iload 110 7 dX6_read_108 rfl (by decide) rfl ?_
                refine x_iconst 111 dX6_read_110 rfl ?_
                refine x_iadd 112 dX6_read_111 rfl ?_
                refine x_iaload 113 dX6_read_112 rfl (st_a0 hq) (by omega) (fun g112 => ?_)
                rw [c1]
                refine x_vi 116 [_, _] (c_addFixture (o := 4) (Or.inl rfl) hR2 (by have := hE.2.1; omega) _ _ (by omega) (by omega)) mX1_addFixture kX6_163 dX6_read_113 rfl rfl ⟨by decide, rfl⟩ rfl rfl (Nat.le_of_ble_eq_true rfl) (by decide) (fun r3 M3 q3 => ?_)
                obtain ⟨rfl, hR3, hF3⟩ := q3
                refine x_if_ge 134 119 dX6_read_116 (by decide) rfl (by omega) (fun h116 => ?_) (fun h116 => ?_)
                · refine x_iinc 137 _ dX6_read_134 rfl (by decide) rfl rfl rfl ?_
                  refine x_goto 40 dX6_read_137 (by decide) ?_
                  rw [if_neg (by omega)] at hr
                  have hx := Ext_s hE (by omega) (by omega) (show ¬ bookR v (zc s K (f + 2 * (i : Int))) (zc s K (f + 2 * (i : Int) + 1)) < 0 by omega)
                  exact ih (i + 1) _ M3 _ _ (by omega) hx.1 (by have := hx.1.2.1; have := hE.2.1; omega) hR3 (hF2.tr hF3) (by omega) hr
                · refine x_aload_n 120 0 dX6_read_119 rfl rfl (by decide) rfl ?_
                  refine x_getR 123 2 4 dX6_read_120 rfl fX6_24 rfl rfl rfl ?_
                  refine x_iload 125 5 dX6_read_123 rfl (by decide) rfl ?_
                  refine x_putI 128 7 7 rfl dX6_read_125 rfl fX6_104 rfl rfl rfl (by omega) ?_
                  refine x_bipush 130 dX6_read_128 rfl (by decide) ?_
                  refine x_iload 132 6 dX6_read_130 rfl (by decide) rfl ?_
                  refine x_isub 133 dX6_read_132 rfl ?_
                  refine x_iret dX6_read_133 rfl ⟨rfl, Nat.le_refl _⟩ (qi_i ?_)
                  rw [if_pos (by omega)] at hr
                  obtain ⟨y1, y2⟩ := hA _ hr.symm
                  rw [y1, y2]
                  rw [if_pos rfl]
                  rw [book_no (by have := hE.2.1; omega) (by omega)] at hR3
                  have hp := PC.lg (M2 := up2 M3 4 7 (vf (sV s))) (r := -20 - (i : Int)) (r0 := -20 - (i : Int)) (s := s) (v := sV s) hC rfl (Ext_back hE hR3 (by omega)) ((hF2.tr hF3).up _ _ _ (by omega))
                  rw [uV_self] at hp
                  exact hp
              · refine x_aload_n 75 0 dX6_read_74 rfl rfl (by decide) rfl ?_
                refine x_iload 77 8 dX6_read_75 rfl (by decide) rfl ?_
                refine x_putI 80 12 12 rfl dX6_read_77 rfl fX6_287 rfl rfl rfl (by omega) ?_
                refine x_iload 82 6 dX6_read_80 rfl (by decide) rfl ?_
                refine x_iret dX6_read_82 rfl ⟨rfl, Nat.le_refl _⟩ (qi_i ?_)
                rw [if_pos (by omega)] at hr
                obtain ⟨y1, y2⟩ := hA _ hr.symm
                rw [y1, y2]
                rw [if_neg (by show ¬ pfl (zz s K) (zl s K) l (f + 2 * (i : Int)) = -1; omega)]
                exact PC.lgN hC rfl hR2 hF2
        refine x_aload_n 29 0 dX6_read_28 rfl rfl (by decide) rfl ?_
        refine x_getR 32 2 4 dX6_read_29 rfl fX6_24 rfl rfl rfl ?_
        refine x_getI 35 7 7 rfl dX6_read_32 rfl fX6_104 rfl rfl (fun g32 => ?_)
        rw [e7]
        refine x_istore 37 5 _ dX6_read_35 rfl (by decide) rfl rfl ?_
        refine x_iconst 38 dX6_read_37 rfl ?_
        refine x_istore 40 6 _ dX6_read_38 rfl (by decide) rfl rfl ?_
        exact loop N 0 (sV s) M _ _ (by omega) (Ext_0 _) (by omega) hV (Fr.rf 4 M) (Or.inl rfl) hrs.symm
      · refine x_iconst 27 dX6_read_26 rfl ?_
        refine x_iret dX6_read_27 rfl ⟨rfl, Nat.le_refl _⟩ (qi_i ?_)
        have y1 : aRead s k l f n = -1 := by (unfold aRead; rw [if_neg (by omega)])
        have y2 : nRead s k l f n = s := by (unfold nRead; rw [if_neg (by omega)])
        rw [y1, y2]; exact PC.same hC rfl
