def aSee (s : ST) (n t : Int) : Int := if (0 ≤ n ∧ n ≤ 20) ∧ (t = 9 ∨ (0 ≤ t ∧ t < vn (sV s))) then (if sc s < 6 then sc s + 1 else -3) else -1
def nSee (s : ST) (n t : Int) : ST := if (0 ≤ n ∧ n ≤ 20) ∧ (t = 9 ∨ (0 ≤ t ∧ t < vn (sV s))) then (if sc s < 6 then uS s (sc s + 1) (fu (sw s) (sc s) n) (fu (sl s) (sc s) t) else s) else s
def aForget (s : ST) (n : Int) : Int := if 0 ≤ n ∧ n ≤ sc s then sc s else -1
def nForget (s : ST) (n : Int) : ST := if 0 ≤ n ∧ n ≤ sc s then uS s n (sw s) (sl s) else s
def aKeep (s : ST) (k : Int) : Int := if k = 0 then k0 s else if k = 1 then k1 s else -1
def nKeep (s : ST) (k : Int) : ST := if k = 0 then uK s 1 (k1 s) (sV s) (i1 s) else if k = 1 then uK s (k0 s) 1 (i0 s) (sV s) else s
def aBack (s : ST) (k : Int) : Int := if k = 0 then (if k0 s = 1 then vw (i0 s) else -2) else if k = 1 then (if k1 s = 1 then vw (i1 s) else -2) else -1
def nBack (s : ST) (k : Int) : ST := if k = 0 then (if k0 s = 1 then uV s (i0 s) else s) else if k = 1 then (if k1 s = 1 then uV s (i1 s) else s) else s
def up1 {α : Type} (f : Nat → α) (k : Nat) (x : α) : Nat → α := fun j => if j = k then x else f j
def aSheet (s : ST) (k l n : Int) : Int := if (0 ≤ k ∧ k ≤ 3) ∧ (0 ≤ l ∧ l ≤ 2) ∧ n ≤ 40 then (if n < 0 then -14 else 1) else -1
def nSheet (s : ST) (k l n : Int) : ST := if (0 ≤ k ∧ k ≤ 3) ∧ (0 ≤ l ∧ l ≤ 2) ∧ n ≤ 40 then (if n < 0 then s else uZ s (up1 (zz s) k.toNat n) (up1 (zl s) k.toNat l) (up1 (zc s) k.toNat (fun _ => 0))) else s
def aLay (s : ST) (k i v : Int) : Int := if 0 ≤ k ∧ k ≤ 3 then (if zz s k.toNat = -1 then -11 else if 0 ≤ i ∧ i < zz s k.toNat then 1 else -12) else -1
def nLay (s : ST) (k i v : Int) : ST := if (0 ≤ k ∧ k ≤ 3) ∧ zz s k.toNat ≠ -1 ∧ (0 ≤ i ∧ i < zz s k.toNat) then uZ s (zz s) (zl s) (up1 (zc s) k.toNat (fu (zc s k.toNat) i (nrw (zl s k.toNat) v))) else s
def aCount (s : ST) (w : Int) : Int := if w = 0 then sc s else if w = 1 then k0 s + k1 s else if w = 2 then tl s else if w = 3 then (if zz s 0 = -1 then -4 else zz s 0) else if w = 4 then sumN (vS (sV s)) (vn (sV s)).toNat else if w = 5 then sumN (vL (sV s)) (vn (sV s)).toNat else -1
theorem isSt_k {K : Nat} (h : K < 4) : isSt (42 + 2 * K) := by
  match K, h with
  | 0, _ => exact Or.inl rfl
  | 1, _ => exact Or.inr (Or.inl rfl)
  | 2, _ => exact Or.inr (Or.inr (Or.inl rfl))
  | 3, _ => exact Or.inr (Or.inr (Or.inr rfl))
theorem R0_20 {K : Nat} (h : K < 4) : R0 20 (K : Int).toNat = some (42 + 2 * K) := by
  match K, h with
  | 0, _ => rfl
  | 1, _ => rfl
  | 2, _ => rfl
  | 3, _ => rfl

set_option maxHeartbeats 4000000 in
theorem p_see {g : GG} {M : Mem} {s : ST} (hC : Cls M s) (hO : SOK s) (n t : Int) (hn : -2147483648 ≤ n ∧ n ≤ 2147483647) (ht : -2147483648 ≤ t ∧ t ≤ 2147483647) : CI g tX6_see 1 [rv g 0, iv n, iv t] M (PC M (aSee s n t) (nSee s n t)) := by
  refine Con.of [some (rv g 0), some (iv n), some (iv t)] (by decide +kernel) rfl (Nat.le_of_ble_eq_true rfl) ?_
  obtain ⟨hV, ⟨hk0, hk1, hi0, hi1⟩, ⟨hT1, hT2⟩, ⟨hS1, hS2⟩, hZ, hN, hF⟩ := id hC
  obtain ⟨oV, oW, oI0, oI1, oT, oTb, oS, oSb, oZ⟩ := id hO
  obtain ⟨e6, e7, e8, e4, e5⟩ := id hV
  have o1 := oV.1
  have o2 := oV.2.1
  have o3 := oV.2.2.1
  refine x_iload_n 1 1 dX6_see_0 rfl rfl (by decide) rfl ?_
  refine x_bipush 3 dX6_see_1 rfl (by decide) ?_
  refine x_sp 6 [_, _] (c_within _ _ (by omega) (by omega)) mX6_within kX6_70 dX6_see_3 rfl rfl rfl (Nat.le_of_ble_eq_true rfl) (by decide) ?_
  refine x_ifeq_b 26 9 dX6_see_6 (by decide) rfl (fun h6 => ?_) (fun h6 => ?_)
  · refine x_iconst 27 dX6_see_26 rfl ?_
    refine x_iret dX6_see_27 rfl ⟨rfl, Nat.le_refl _⟩ (qi_i ?_)
    have y1 : aSee s n t = -1 := by (unfold aSee; rw [if_neg (by omega)])
    have y2 : nSee s n t = s := by (unfold nSee; rw [if_neg (by omega)])
    rw [y1, y2]; exact PC.same hC rfl
  · refine x_iload_n 10 2 dX6_see_9 rfl rfl (by decide) rfl ?_
    refine x_bipush 12 dX6_see_10 rfl (by decide) ?_
    refine x_icmp_eq 28 15 dX6_see_12 (by decide) rfl (by omega) (fun h12 => ?_) (fun h12 => ?_)
    · refine x_aload_n 29 0 dX6_see_28 rfl rfl (by decide) rfl ?_
      refine x_getR 32 7 21 dX6_see_29 rfl fX6_48 rfl rfl rfl ?_
      refine x_iload_n 33 1 dX6_see_32 rfl rfl (by decide) rfl ?_
      refine x_iload_n 34 2 dX6_see_33 rfl rfl (by decide) rfl ?_
      refine x_vi 37 [_, _] (c_sadd (by omega) n t (by omega) (by omega)) mX3_add kX6_249 dX6_see_34 rfl rfl ⟨by decide, rfl⟩ rfl rfl (Nat.le_of_ble_eq_true rfl) (by decide) (fun r2 M2 q2 => ?_)
      obtain ⟨rfl, rfl⟩ := q2
      refine x_ifeq_b 50 40 dX6_see_37 (by decide) rfl (fun h37 => ?_) (fun h37 => ?_)
      · rw [if_neg (show ¬ M 21 2 < 6 by assumption)]
        have hlt : ¬ M 21 2 < 6 := by assumption
        refine x_bipush 52 dX6_see_50 rfl (by decide) ?_
        refine x_iret dX6_see_52 rfl ⟨rfl, Nat.le_refl _⟩ (qi_i ?_)
        first
          | (have y1 : aSee s n t = -3 := by (unfold aSee; rw [if_pos (by omega), if_neg (by omega)])
             have y2 : nSee s n t = s := by (unfold nSee; rw [if_pos (by omega), if_neg (by omega)])
             rw [y1, y2]; exact PC.same hC rfl)
          | (have y1 : aSee s n t = sc s + 1 := by (unfold aSee; rw [if_pos (by omega), if_pos (by omega)])
             have y2 : nSee s n t = uS s (sc s + 1) (fu (sw s) (sc s) n) (fu (sl s) (sc s) t) := by (unfold nSee; rw [if_pos (by omega), if_pos (by omega)])
             rw [y1, y2, up2_s, hS1]
             refine ⟨rfl, ⟨hV.keep (fun a x y => by rw [up2_o _ _ _ (by omega), up2_o _ _ _ (by omega), up2_o _ _ _ (by omega)]), ⟨?_, ?_, fun q => (hi0 q).keep (fun a x y => by rw [up2_o _ _ _ (by omega), up2_o _ _ _ (by omega), up2_o _ _ _ (by omega)]), fun q => (hi1 q).keep (fun a x y => by rw [up2_o _ _ _ (by omega), up2_o _ _ _ (by omega), up2_o _ _ _ (by omega)])⟩, ?_, ⟨up2_s _ _ _ _, fun i a b => ?_⟩, fun k hk => ?_, ?_, ?_⟩, fun a ha => by rw [up2_o _ _ _ (by omega), up2_o _ _ _ (by omega), up2_o _ _ _ (by omega)]⟩
             · rw [up2_o _ _ _ (by omega), up2_o _ _ _ (by omega), up2_o _ _ _ (by omega)]; exact hk0
             · rw [up2_o _ _ _ (by omega), up2_o _ _ _ (by omega), up2_o _ _ _ (by omega)]; exact hk1
             · rw [up2_o _ _ _ (by omega), up2_o _ _ _ (by omega), up2_o _ _ _ (by omega)]; rw [up2_o _ _ _ (by omega), up2_o _ _ _ (by omega), up2_o _ _ _ (by omega)]; exact ⟨hT1, hT2⟩
             · have b : i < sc s + 1 := b
               rw [up2_o _ _ _ (show 22 ≠ 21 by omega), up2_o _ _ _ (show 22 ≠ 23 by omega), up2_i, up2_o _ _ _ (show 23 ≠ 21 by omega), up2_i, up2_o _ _ _ (show 23 ≠ 22 by omega)]
               show _ = fu (sw s) (sc s) n i ∧ _ = fu (sl s) (sc s) t i
               by_cases e : i = sc s
               · rw [if_pos e, if_pos e, e, fu_s, fu_s]; exact ⟨rfl, rfl⟩
               · rw [if_neg e, if_neg e, fu_n _ _ e, fu_n _ _ e]; exact hS2 i a (by omega)
             · rw [up2_o _ _ _ (by omega), up2_o _ _ _ (by omega), up2_o _ _ _ (by omega)]; rw [up2_o _ _ _ (by omega), up2_o _ _ _ (by omega), up2_o _ _ _ (by omega)]; exact hZ k hk
             · rw [up2_o _ _ _ (by omega), up2_o _ _ _ (by omega), up2_o _ _ _ (by omega)]; exact hN
             · rw [up2_o _ _ _ (by omega), up2_o _ _ _ (by omega), up2_o _ _ _ (by omega)]; exact hF)
      · rw [if_pos (show M 21 2 < 6 by assumption)]
        have hlt : M 21 2 < 6 := by assumption
        refine x_aload_n 41 0 dX6_see_40 rfl rfl (by decide) rfl ?_
        refine x_getR 44 7 21 dX6_see_41 rfl fX6_48 rfl rfl rfl ?_
        refine x_getI 47 2 2 rfl dX6_see_44 rfl fX6_98 rfl rfl (fun g44 => ?_)
        refine x_goto 52 dX6_see_47 (by decide) ?_
        refine x_iret dX6_see_52 rfl ⟨rfl, Nat.le_refl _⟩ (qi_i ?_)
        first
          | (have y1 : aSee s n t = -3 := by (unfold aSee; rw [if_pos (by omega), if_neg (by omega)])
             have y2 : nSee s n t = s := by (unfold nSee; rw [if_pos (by omega), if_neg (by omega)])
             rw [y1, y2]; exact PC.same hC rfl)
          | (have y1 : aSee s n t = sc s + 1 := by (unfold aSee; rw [if_pos (by omega), if_pos (by omega)])
             have y2 : nSee s n t = uS s (sc s + 1) (fu (sw s) (sc s) n) (fu (sl s) (sc s) t) := by (unfold nSee; rw [if_pos (by omega), if_pos (by omega)])
             rw [y1, y2, up2_s, hS1]
             refine ⟨rfl, ⟨hV.keep (fun a x y => by rw [up2_o _ _ _ (by omega), up2_o _ _ _ (by omega), up2_o _ _ _ (by omega)]), ⟨?_, ?_, fun q => (hi0 q).keep (fun a x y => by rw [up2_o _ _ _ (by omega), up2_o _ _ _ (by omega), up2_o _ _ _ (by omega)]), fun q => (hi1 q).keep (fun a x y => by rw [up2_o _ _ _ (by omega), up2_o _ _ _ (by omega), up2_o _ _ _ (by omega)])⟩, ?_, ⟨up2_s _ _ _ _, fun i a b => ?_⟩, fun k hk => ?_, ?_, ?_⟩, fun a ha => by rw [up2_o _ _ _ (by omega), up2_o _ _ _ (by omega), up2_o _ _ _ (by omega)]⟩
             · rw [up2_o _ _ _ (by omega), up2_o _ _ _ (by omega), up2_o _ _ _ (by omega)]; exact hk0
             · rw [up2_o _ _ _ (by omega), up2_o _ _ _ (by omega), up2_o _ _ _ (by omega)]; exact hk1
             · rw [up2_o _ _ _ (by omega), up2_o _ _ _ (by omega), up2_o _ _ _ (by omega)]; rw [up2_o _ _ _ (by omega), up2_o _ _ _ (by omega), up2_o _ _ _ (by omega)]; exact ⟨hT1, hT2⟩
             · have b : i < sc s + 1 := b
               rw [up2_o _ _ _ (show 22 ≠ 21 by omega), up2_o _ _ _ (show 22 ≠ 23 by omega), up2_i, up2_o _ _ _ (show 23 ≠ 21 by omega), up2_i, up2_o _ _ _ (show 23 ≠ 22 by omega)]
               show _ = fu (sw s) (sc s) n i ∧ _ = fu (sl s) (sc s) t i
               by_cases e : i = sc s
               · rw [if_pos e, if_pos e, e, fu_s, fu_s]; exact ⟨rfl, rfl⟩
               · rw [if_neg e, if_neg e, fu_n _ _ e, fu_n _ _ e]; exact hS2 i a (by omega)
             · rw [up2_o _ _ _ (by omega), up2_o _ _ _ (by omega), up2_o _ _ _ (by omega)]; rw [up2_o _ _ _ (by omega), up2_o _ _ _ (by omega), up2_o _ _ _ (by omega)]; exact hZ k hk
             · rw [up2_o _ _ _ (by omega), up2_o _ _ _ (by omega), up2_o _ _ _ (by omega)]; exact hN
             · rw [up2_o _ _ _ (by omega), up2_o _ _ _ (by omega), up2_o _ _ _ (by omega)]; exact hF)
    · refine x_aload_n 16 0 dX6_see_15 rfl rfl (by decide) rfl ?_
      refine x_getR 19 2 4 dX6_see_16 rfl fX6_24 rfl rfl rfl ?_
      refine x_iload_n 20 2 dX6_see_19 rfl rfl (by decide) rfl ?_
      refine x_vp 23 [_] (c_hasTown (o := 4) (Or.inl rfl) t ht) mX1_hasTown kX6_120 dX6_see_20 rfl rfl ⟨by decide, rfl⟩ rfl rfl (Nat.le_of_ble_eq_true rfl) (by decide) ?_
      refine x_ifne_b 28 26 dX6_see_23 (by decide) rfl (fun h23 => ?_) (fun h23 => ?_)
      · refine x_aload_n 29 0 dX6_see_28 rfl rfl (by decide) rfl ?_
        refine x_getR 32 7 21 dX6_see_29 rfl fX6_48 rfl rfl rfl ?_
        refine x_iload_n 33 1 dX6_see_32 rfl rfl (by decide) rfl ?_
        refine x_iload_n 34 2 dX6_see_33 rfl rfl (by decide) rfl ?_
        refine x_vi 37 [_, _] (c_sadd (by omega) n t (by omega) (by omega)) mX3_add kX6_249 dX6_see_34 rfl rfl ⟨by decide, rfl⟩ rfl rfl (Nat.le_of_ble_eq_true rfl) (by decide) (fun r2 M2 q2 => ?_)
        obtain ⟨rfl, rfl⟩ := q2
        refine x_ifeq_b 50 40 dX6_see_37 (by decide) rfl (fun h37 => ?_) (fun h37 => ?_)
        · rw [if_neg (show ¬ M 21 2 < 6 by assumption)]
          have hlt : ¬ M 21 2 < 6 := by assumption
          refine x_bipush 52 dX6_see_50 rfl (by decide) ?_
          refine x_iret dX6_see_52 rfl ⟨rfl, Nat.le_refl _⟩ (qi_i ?_)
          first
            | (have y1 : aSee s n t = -3 := by (unfold aSee; rw [if_pos (by omega), if_neg (by omega)])
               have y2 : nSee s n t = s := by (unfold nSee; rw [if_pos (by omega), if_neg (by omega)])
               rw [y1, y2]; exact PC.same hC rfl)
            | (have y1 : aSee s n t = sc s + 1 := by (unfold aSee; rw [if_pos (by omega), if_pos (by omega)])
               have y2 : nSee s n t = uS s (sc s + 1) (fu (sw s) (sc s) n) (fu (sl s) (sc s) t) := by (unfold nSee; rw [if_pos (by omega), if_pos (by omega)])
               rw [y1, y2, up2_s, hS1]
               refine ⟨rfl, ⟨hV.keep (fun a x y => by rw [up2_o _ _ _ (by omega), up2_o _ _ _ (by omega), up2_o _ _ _ (by omega)]), ⟨?_, ?_, fun q => (hi0 q).keep (fun a x y => by rw [up2_o _ _ _ (by omega), up2_o _ _ _ (by omega), up2_o _ _ _ (by omega)]), fun q => (hi1 q).keep (fun a x y => by rw [up2_o _ _ _ (by omega), up2_o _ _ _ (by omega), up2_o _ _ _ (by omega)])⟩, ?_, ⟨up2_s _ _ _ _, fun i a b => ?_⟩, fun k hk => ?_, ?_, ?_⟩, fun a ha => by rw [up2_o _ _ _ (by omega), up2_o _ _ _ (by omega), up2_o _ _ _ (by omega)]⟩
               · rw [up2_o _ _ _ (by omega), up2_o _ _ _ (by omega), up2_o _ _ _ (by omega)]; exact hk0
               · rw [up2_o _ _ _ (by omega), up2_o _ _ _ (by omega), up2_o _ _ _ (by omega)]; exact hk1
               · rw [up2_o _ _ _ (by omega), up2_o _ _ _ (by omega), up2_o _ _ _ (by omega)]; rw [up2_o _ _ _ (by omega), up2_o _ _ _ (by omega), up2_o _ _ _ (by omega)]; exact ⟨hT1, hT2⟩
               · have b : i < sc s + 1 := b
                 rw [up2_o _ _ _ (show 22 ≠ 21 by omega), up2_o _ _ _ (show 22 ≠ 23 by omega), up2_i, up2_o _ _ _ (show 23 ≠ 21 by omega), up2_i, up2_o _ _ _ (show 23 ≠ 22 by omega)]
                 show _ = fu (sw s) (sc s) n i ∧ _ = fu (sl s) (sc s) t i
                 by_cases e : i = sc s
                 · rw [if_pos e, if_pos e, e, fu_s, fu_s]; exact ⟨rfl, rfl⟩
                 · rw [if_neg e, if_neg e, fu_n _ _ e, fu_n _ _ e]; exact hS2 i a (by omega)
               · rw [up2_o _ _ _ (by omega), up2_o _ _ _ (by omega), up2_o _ _ _ (by omega)]; rw [up2_o _ _ _ (by omega), up2_o _ _ _ (by omega), up2_o _ _ _ (by omega)]; exact hZ k hk
               · rw [up2_o _ _ _ (by omega), up2_o _ _ _ (by omega), up2_o _ _ _ (by omega)]; exact hN
               · rw [up2_o _ _ _ (by omega), up2_o _ _ _ (by omega), up2_o _ _ _ (by omega)]; exact hF)
        · rw [if_pos (show M 21 2 < 6 by assumption)]
          have hlt : M 21 2 < 6 := by assumption
          refine x_aload_n 41 0 dX6_see_40 rfl rfl (by decide) rfl ?_
          refine x_getR 44 7 21 dX6_see_41 rfl fX6_48 rfl rfl rfl ?_
          refine x_getI 47 2 2 rfl dX6_see_44 rfl fX6_98 rfl rfl (fun g44 => ?_)
          refine x_goto 52 dX6_see_47 (by decide) ?_
          refine x_iret dX6_see_52 rfl ⟨rfl, Nat.le_refl _⟩ (qi_i ?_)
          first
            | (have y1 : aSee s n t = -3 := by (unfold aSee; rw [if_pos (by omega), if_neg (by omega)])
               have y2 : nSee s n t = s := by (unfold nSee; rw [if_pos (by omega), if_neg (by omega)])
               rw [y1, y2]; exact PC.same hC rfl)
            | (have y1 : aSee s n t = sc s + 1 := by (unfold aSee; rw [if_pos (by omega), if_pos (by omega)])
               have y2 : nSee s n t = uS s (sc s + 1) (fu (sw s) (sc s) n) (fu (sl s) (sc s) t) := by (unfold nSee; rw [if_pos (by omega), if_pos (by omega)])
               rw [y1, y2, up2_s, hS1]
               refine ⟨rfl, ⟨hV.keep (fun a x y => by rw [up2_o _ _ _ (by omega), up2_o _ _ _ (by omega), up2_o _ _ _ (by omega)]), ⟨?_, ?_, fun q => (hi0 q).keep (fun a x y => by rw [up2_o _ _ _ (by omega), up2_o _ _ _ (by omega), up2_o _ _ _ (by omega)]), fun q => (hi1 q).keep (fun a x y => by rw [up2_o _ _ _ (by omega), up2_o _ _ _ (by omega), up2_o _ _ _ (by omega)])⟩, ?_, ⟨up2_s _ _ _ _, fun i a b => ?_⟩, fun k hk => ?_, ?_, ?_⟩, fun a ha => by rw [up2_o _ _ _ (by omega), up2_o _ _ _ (by omega), up2_o _ _ _ (by omega)]⟩
               · rw [up2_o _ _ _ (by omega), up2_o _ _ _ (by omega), up2_o _ _ _ (by omega)]; exact hk0
               · rw [up2_o _ _ _ (by omega), up2_o _ _ _ (by omega), up2_o _ _ _ (by omega)]; exact hk1
               · rw [up2_o _ _ _ (by omega), up2_o _ _ _ (by omega), up2_o _ _ _ (by omega)]; rw [up2_o _ _ _ (by omega), up2_o _ _ _ (by omega), up2_o _ _ _ (by omega)]; exact ⟨hT1, hT2⟩
               · have b : i < sc s + 1 := b
                 rw [up2_o _ _ _ (show 22 ≠ 21 by omega), up2_o _ _ _ (show 22 ≠ 23 by omega), up2_i, up2_o _ _ _ (show 23 ≠ 21 by omega), up2_i, up2_o _ _ _ (show 23 ≠ 22 by omega)]
                 show _ = fu (sw s) (sc s) n i ∧ _ = fu (sl s) (sc s) t i
                 by_cases e : i = sc s
                 · rw [if_pos e, if_pos e, e, fu_s, fu_s]; exact ⟨rfl, rfl⟩
                 · rw [if_neg e, if_neg e, fu_n _ _ e, fu_n _ _ e]; exact hS2 i a (by omega)
               · rw [up2_o _ _ _ (by omega), up2_o _ _ _ (by omega), up2_o _ _ _ (by omega)]; rw [up2_o _ _ _ (by omega), up2_o _ _ _ (by omega), up2_o _ _ _ (by omega)]; exact hZ k hk
               · rw [up2_o _ _ _ (by omega), up2_o _ _ _ (by omega), up2_o _ _ _ (by omega)]; exact hN
               · rw [up2_o _ _ _ (by omega), up2_o _ _ _ (by omega), up2_o _ _ _ (by omega)]; exact hF)
      · refine x_iconst 27 dX6_see_26 rfl ?_
        refine x_iret dX6_see_27 rfl ⟨rfl, Nat.le_refl _⟩ (qi_i ?_)
        have y1 : aSee s n t = -1 := by (unfold aSee; rw [if_neg (by omega)])
        have y2 : nSee s n t = s := by (unfold nSee; rw [if_neg (by omega)])
        rw [y1, y2]; exact PC.same hC rfl

set_option maxHeartbeats 4000000 in
theorem p_forget {g : GG} {M : Mem} {s : ST} (hC : Cls M s) (hO : SOK s) (n : Int) (hn : -2147483648 ≤ n ∧ n ≤ 2147483647) : CI g tX6_forget 1 [rv g 0, iv n] M (PC M (aForget s n) (nForget s n)) := by
  refine Con.of [some (rv g 0), some (iv n), none] (by decide +kernel) rfl (Nat.le_of_ble_eq_true rfl) ?_
  obtain ⟨hV, ⟨hk0, hk1, hi0, hi1⟩, ⟨hT1, hT2⟩, ⟨hS1, hS2⟩, hZ, hN, hF⟩ := id hC
  obtain ⟨oV, oW, oI0, oI1, oT, oTb, oS, oSb, oZ⟩ := id hO
  obtain ⟨e6, e7, e8, e4, e5⟩ := id hV
  have o1 := oV.1
  have o2 := oV.2.1
  have o3 := oV.2.2.1
  refine x_iload_n 1 1 dX6_forget_0 rfl rfl (by decide) rfl ?_
  refine x_aload_n 2 0 dX6_forget_1 rfl rfl (by decide) rfl ?_
  refine x_getR 5 7 21 dX6_forget_2 rfl fX6_48 rfl rfl rfl ?_
  refine x_getI 8 2 2 rfl dX6_forget_5 rfl fX6_98 rfl rfl (fun g5 => ?_)
  refine x_sp 11 [_, _] (c_within _ _ (by omega) (by omega)) mX6_within kX6_70 dX6_forget_8 rfl rfl rfl (Nat.le_of_ble_eq_true rfl) (by decide) ?_
  refine x_ifne_b 16 14 dX6_forget_11 (by decide) rfl (fun h11 => ?_) (fun h11 => ?_)
  · refine x_aload_n 17 0 dX6_forget_16 rfl rfl (by decide) rfl ?_
    refine x_getR 20 7 21 dX6_forget_17 rfl fX6_48 rfl rfl rfl ?_
    refine x_getI 23 2 2 rfl dX6_forget_20 rfl fX6_98 rfl rfl (fun g20 => ?_)
    refine x_istore_n 24 2 _ dX6_forget_23 rfl rfl (by decide) rfl rfl ?_
    refine x_aload_n 25 0 dX6_forget_24 rfl rfl (by decide) rfl ?_
    refine x_getR 28 7 21 dX6_forget_25 rfl fX6_48 rfl rfl rfl ?_
    refine x_iload_n 29 1 dX6_forget_28 rfl rfl (by decide) rfl ?_
    refine x_putI 32 2 2 rfl dX6_forget_29 rfl fX6_98 rfl rfl rfl (by omega) ?_
    refine x_iload_n 33 2 dX6_forget_32 rfl rfl (by decide) rfl ?_
    refine x_iret dX6_forget_33 rfl ⟨rfl, Nat.le_refl _⟩ (qi_i ?_)
    have y1 : aForget s n = sc s := by (unfold aForget; rw [if_pos (by omega)])
    have y2 : nForget s n = uS s n (sw s) (sl s) := by (unfold nForget; rw [if_pos (by omega)])
    rw [y1, y2]
    refine ⟨hS1, ⟨hV.keep (fun a x y => up2_o _ _ _ (by omega)), ⟨?_, ?_, fun q => (hi0 q).keep (fun a x y => up2_o _ _ _ (by omega)), fun q => (hi1 q).keep (fun a x y => up2_o _ _ _ (by omega))⟩, ?_, ⟨up2_s _ _ _ _, fun i a b => ?_⟩, fun k hk => ?_, ?_, ?_⟩, fun a ha => up2_o _ _ _ (by omega)⟩
    · rw [up2_o _ _ _ (by omega)]; exact hk0
    · rw [up2_o _ _ _ (by omega)]; exact hk1
    · rw [up2_o _ _ _ (by omega)]; rw [up2_o _ _ _ (by omega)]; exact ⟨hT1, hT2⟩
    · rw [up2_o _ _ _ (by omega)]; rw [up2_o _ _ _ (by omega)]; have b : i < n := b; exact hS2 i a (by omega)
    · rw [up2_o _ _ _ (by omega)]; rw [up2_o _ _ _ (by omega)]; exact hZ k hk
    · rw [up2_o _ _ _ (by omega)]; exact hN
    · rw [up2_o _ _ _ (by omega)]; exact hF
  · refine x_iconst 15 dX6_forget_14 rfl ?_
    refine x_iret dX6_forget_15 rfl ⟨rfl, Nat.le_refl _⟩ (qi_i ?_)
    have y1 : aForget s n = -1 := by (unfold aForget; rw [if_neg (by omega)])
    have y2 : nForget s n = s := by (unfold nForget; rw [if_neg (by omega)])
    rw [y1, y2]; exact PC.same hC rfl

set_option maxHeartbeats 4000000 in
theorem p_keep {g : GG} {M : Mem} {s : ST} (hC : Cls M s) (hO : SOK s) (k : Int) (hk : -2147483648 ≤ k ∧ k ≤ 2147483647) : CI g tX6_keep 1 [rv g 0, iv k] M (PC M (aKeep s k) (nKeep s k)) := by
  refine Con.of [some (rv g 0), some (iv k), none] (by decide +kernel) rfl (Nat.le_of_ble_eq_true rfl) ?_
  obtain ⟨hV, ⟨hk0, hk1, hi0, hi1⟩, ⟨hT1, hT2⟩, ⟨hS1, hS2⟩, hZ, hN, hF⟩ := id hC
  obtain ⟨oV, oW, oI0, oI1, oT, oTb, oS, oSb, oZ⟩ := id hO
  obtain ⟨e6, e7, e8, e4, e5⟩ := id hV
  have o1 := oV.1
  have o2 := oV.2.1
  have o3 := oV.2.2.1
  refine x_iload_n 1 1 dX6_keep_0 rfl rfl (by decide) rfl ?_
  refine x_iconst 2 dX6_keep_1 rfl ?_
  refine x_sp 5 [_, _] (c_within _ _ (by omega) (by omega)) mX6_within kX6_70 dX6_keep_2 rfl rfl rfl (Nat.le_of_ble_eq_true rfl) (by decide) ?_
  refine x_ifne_b 10 8 dX6_keep_5 (by decide) rfl (fun h5 => ?_) (fun h5 => ?_)
  · rcases (show k = 0 ∨ k = 1 by omega) with rfl | rfl
    · refine x_aload_n 11 0 dX6_keep_10 rfl rfl (by decide) rfl ?_
      refine x_getR 14 5 19 dX6_keep_11 rfl fX6_35 rfl rfl rfl ?_
      refine x_iload_n 15 1 dX6_keep_14 rfl rfl (by decide) rfl ?_
      refine x_zaload 16 dX6_keep_15 rfl rfl (by omega) (fun g15 => ?_)
      refine x_istore_n 17 2 _ dX6_keep_16 rfl rfl (by decide) rfl rfl ?_
      have hkv0 := oI0.1
      refine x_aload_n 18 0 dX6_keep_17 rfl rfl (by decide) rfl ?_
      refine x_getR 21 4 18 dX6_keep_18 rfl fX6_31 rfl rfl rfl ?_
      refine x_iload_n 22 1 dX6_keep_21 rfl rfl (by decide) rfl ?_
      refine x_aaload 23 28 (by decide) dX6_keep_22 rfl rfl (by omega) rfl ?_
      refine x_aload_n 24 0 dX6_keep_23 rfl rfl (by decide) rfl ?_
      refine x_getR 27 2 4 dX6_keep_24 rfl fX6_24 rfl rfl rfl ?_
      refine x_vv 30 [_] (c_become (o := 28) (p := 4) (Or.inr (Or.inr (Or.inl rfl))) (Or.inl rfl) (by decide) hV oV) mX1_become kX6_94 dX6_keep_27 rfl (lg_s (Or.inr (Or.inr (Or.inl rfl)))) ⟨by decide, rfl⟩ rfl rfl (Nat.le_of_ble_eq_true rfl) (by decide) (fun M2 q2 => ?_)
      obtain ⟨hR2, hF2⟩ := q2
      refine x_aload_n 31 0 dX6_keep_30 rfl rfl (by decide) rfl ?_
      refine x_getR 34 5 19 dX6_keep_31 rfl fX6_35 rfl rfl rfl ?_
      refine x_iload_n 35 1 dX6_keep_34 rfl rfl (by decide) rfl ?_
      refine x_iconst 36 dX6_keep_35 rfl ?_
      refine x_zastore 37 dX6_keep_36 rfl rfl (by omega) (by omega) (by rfl) ?_
      refine x_iload_n 38 2 dX6_keep_37 rfl rfl (by decide) rfl ?_
      refine x_if_eq 45 41 dX6_keep_38 (by decide) rfl (by omega) (fun h38 => ?_) (fun h38 => ?_)
      · refine x_iconst 46 dX6_keep_45 rfl ?_
        refine x_iret dX6_keep_46 rfl ⟨rfl, Nat.le_refl _⟩ (qi_i ?_)
        have hkv := oI0.1
        have y1 : aKeep s 0 = k0 s := rfl
        have y2 : nKeep s 0 = uK s 1 (k1 s) (sV s) (i1 s) := rfl
        rw [y1, y2]
        have z : ∀ a, a ≠ 19 → (a < 28 ∨ 34 < a) → up2 M2 19 0 1 a = M a := fun a h1 h2 => by rw [up2_o _ _ _ h1]; exact hF2 a (by omega)
        have hz : ∀ x : Int, up2 M2 19 0 1 19 x = if x = 0 then 1 else M 19 x := fun x => by rw [up2_i, hF2 19 (by omega)]
        refine ⟨by omega, ⟨hV.keep (fun a x y => z a (by omega) (by omega)), ⟨?_, ?_, ?_, ?_⟩, ?_, ?_, fun k hk => ?_, ?_, ?_⟩, fun a ha => z a (by omega) (by omega)⟩
        · rw [hz]; first | exact if_pos rfl | (rw [if_neg (by omega)]; exact hk0)
        · rw [hz]; first | exact if_pos rfl | (rw [if_neg (by omega)]; exact hk1)
        · exact fun _ => hR2.keep (fun a x y => up2_o _ _ _ (by omega))
        · exact fun q => (hi1 q).keep (fun a x y => z a (by omega) (by omega))
        · rw [z 2 (by omega) (by omega), z 3 (by omega) (by omega)]; exact ⟨hT1, hT2⟩
        · rw [z 21 (by omega) (by omega), z 22 (by omega) (by omega), z 23 (by omega) (by omega)]; exact ⟨hS1, hS2⟩
        · rw [z (42 + 2 * k) (by omega) (by omega), z (43 + 2 * k) (by omega) (by omega)]; exact hZ k hk
        · rw [z 0 (by omega) (by omega)]; exact hN
        · rw [z 1 (by omega) (by omega)]; exact hF
      · refine x_iconst 42 dX6_keep_41 rfl ?_
        refine x_goto 46 dX6_keep_42 (by decide) ?_
        refine x_iret dX6_keep_46 rfl ⟨rfl, Nat.le_refl _⟩ (qi_i ?_)
        have hkv := oI0.1
        have y1 : aKeep s 0 = k0 s := rfl
        have y2 : nKeep s 0 = uK s 1 (k1 s) (sV s) (i1 s) := rfl
        rw [y1, y2]
        have z : ∀ a, a ≠ 19 → (a < 28 ∨ 34 < a) → up2 M2 19 0 1 a = M a := fun a h1 h2 => by rw [up2_o _ _ _ h1]; exact hF2 a (by omega)
        have hz : ∀ x : Int, up2 M2 19 0 1 19 x = if x = 0 then 1 else M 19 x := fun x => by rw [up2_i, hF2 19 (by omega)]
        refine ⟨by omega, ⟨hV.keep (fun a x y => z a (by omega) (by omega)), ⟨?_, ?_, ?_, ?_⟩, ?_, ?_, fun k hk => ?_, ?_, ?_⟩, fun a ha => z a (by omega) (by omega)⟩
        · rw [hz]; first | exact if_pos rfl | (rw [if_neg (by omega)]; exact hk0)
        · rw [hz]; first | exact if_pos rfl | (rw [if_neg (by omega)]; exact hk1)
        · exact fun _ => hR2.keep (fun a x y => up2_o _ _ _ (by omega))
        · exact fun q => (hi1 q).keep (fun a x y => z a (by omega) (by omega))
        · rw [z 2 (by omega) (by omega), z 3 (by omega) (by omega)]; exact ⟨hT1, hT2⟩
        · rw [z 21 (by omega) (by omega), z 22 (by omega) (by omega), z 23 (by omega) (by omega)]; exact ⟨hS1, hS2⟩
        · rw [z (42 + 2 * k) (by omega) (by omega), z (43 + 2 * k) (by omega) (by omega)]; exact hZ k hk
        · rw [z 0 (by omega) (by omega)]; exact hN
        · rw [z 1 (by omega) (by omega)]; exact hF
    · refine x_aload_n 11 0 dX6_keep_10 rfl rfl (by decide) rfl ?_
      refine x_getR 14 5 19 dX6_keep_11 rfl fX6_35 rfl rfl rfl ?_
      refine x_iload_n 15 1 dX6_keep_14 rfl rfl (by decide) rfl ?_
      refine x_zaload 16 dX6_keep_15 rfl rfl (by omega) (fun g15 => ?_)
      refine x_istore_n 17 2 _ dX6_keep_16 rfl rfl (by decide) rfl rfl ?_
      have hkv0 := oI1.1
      refine x_aload_n 18 0 dX6_keep_17 rfl rfl (by decide) rfl ?_
      refine x_getR 21 4 18 dX6_keep_18 rfl fX6_31 rfl rfl rfl ?_
      refine x_iload_n 22 1 dX6_keep_21 rfl rfl (by decide) rfl ?_
      refine x_aaload 23 35 (by decide) dX6_keep_22 rfl rfl (by omega) rfl ?_
      refine x_aload_n 24 0 dX6_keep_23 rfl rfl (by decide) rfl ?_
      refine x_getR 27 2 4 dX6_keep_24 rfl fX6_24 rfl rfl rfl ?_
      refine x_vv 30 [_] (c_become (o := 35) (p := 4) (Or.inr (Or.inr (Or.inr rfl))) (Or.inl rfl) (by decide) hV oV) mX1_become kX6_94 dX6_keep_27 rfl (lg_s (Or.inr (Or.inr (Or.inr rfl)))) ⟨by decide, rfl⟩ rfl rfl (Nat.le_of_ble_eq_true rfl) (by decide) (fun M2 q2 => ?_)
      obtain ⟨hR2, hF2⟩ := q2
      refine x_aload_n 31 0 dX6_keep_30 rfl rfl (by decide) rfl ?_
      refine x_getR 34 5 19 dX6_keep_31 rfl fX6_35 rfl rfl rfl ?_
      refine x_iload_n 35 1 dX6_keep_34 rfl rfl (by decide) rfl ?_
      refine x_iconst 36 dX6_keep_35 rfl ?_
      refine x_zastore 37 dX6_keep_36 rfl rfl (by omega) (by omega) (by rfl) ?_
      refine x_iload_n 38 2 dX6_keep_37 rfl rfl (by decide) rfl ?_
      refine x_if_eq 45 41 dX6_keep_38 (by decide) rfl (by omega) (fun h38 => ?_) (fun h38 => ?_)
      · refine x_iconst 46 dX6_keep_45 rfl ?_
        refine x_iret dX6_keep_46 rfl ⟨rfl, Nat.le_refl _⟩ (qi_i ?_)
        have hkv := oI1.1
        have y1 : aKeep s 1 = k1 s := rfl
        have y2 : nKeep s 1 = uK s (k0 s) 1 (i0 s) (sV s) := rfl
        rw [y1, y2]
        have z : ∀ a, a ≠ 19 → (a < 35 ∨ 41 < a) → up2 M2 19 1 1 a = M a := fun a h1 h2 => by rw [up2_o _ _ _ h1]; exact hF2 a (by omega)
        have hz : ∀ x : Int, up2 M2 19 1 1 19 x = if x = 1 then 1 else M 19 x := fun x => by rw [up2_i, hF2 19 (by omega)]
        refine ⟨by omega, ⟨hV.keep (fun a x y => z a (by omega) (by omega)), ⟨?_, ?_, ?_, ?_⟩, ?_, ?_, fun k hk => ?_, ?_, ?_⟩, fun a ha => z a (by omega) (by omega)⟩
        · rw [hz]; first | exact if_pos rfl | (rw [if_neg (by omega)]; exact hk0)
        · rw [hz]; first | exact if_pos rfl | (rw [if_neg (by omega)]; exact hk1)
        · exact fun q => (hi0 q).keep (fun a x y => z a (by omega) (by omega))
        · exact fun _ => hR2.keep (fun a x y => up2_o _ _ _ (by omega))
        · rw [z 2 (by omega) (by omega), z 3 (by omega) (by omega)]; exact ⟨hT1, hT2⟩
        · rw [z 21 (by omega) (by omega), z 22 (by omega) (by omega), z 23 (by omega) (by omega)]; exact ⟨hS1, hS2⟩
        · rw [z (42 + 2 * k) (by omega) (by omega), z (43 + 2 * k) (by omega) (by omega)]; exact hZ k hk
        · rw [z 0 (by omega) (by omega)]; exact hN
        · rw [z 1 (by omega) (by omega)]; exact hF
      · refine x_iconst 42 dX6_keep_41 rfl ?_
        refine x_goto 46 dX6_keep_42 (by decide) ?_
        refine x_iret dX6_keep_46 rfl ⟨rfl, Nat.le_refl _⟩ (qi_i ?_)
        have hkv := oI1.1
        have y1 : aKeep s 1 = k1 s := rfl
        have y2 : nKeep s 1 = uK s (k0 s) 1 (i0 s) (sV s) := rfl
        rw [y1, y2]
        have z : ∀ a, a ≠ 19 → (a < 35 ∨ 41 < a) → up2 M2 19 1 1 a = M a := fun a h1 h2 => by rw [up2_o _ _ _ h1]; exact hF2 a (by omega)
        have hz : ∀ x : Int, up2 M2 19 1 1 19 x = if x = 1 then 1 else M 19 x := fun x => by rw [up2_i, hF2 19 (by omega)]
        refine ⟨by omega, ⟨hV.keep (fun a x y => z a (by omega) (by omega)), ⟨?_, ?_, ?_, ?_⟩, ?_, ?_, fun k hk => ?_, ?_, ?_⟩, fun a ha => z a (by omega) (by omega)⟩
        · rw [hz]; first | exact if_pos rfl | (rw [if_neg (by omega)]; exact hk0)
        · rw [hz]; first | exact if_pos rfl | (rw [if_neg (by omega)]; exact hk1)
        · exact fun q => (hi0 q).keep (fun a x y => z a (by omega) (by omega))
        · exact fun _ => hR2.keep (fun a x y => up2_o _ _ _ (by omega))
        · rw [z 2 (by omega) (by omega), z 3 (by omega) (by omega)]; exact ⟨hT1, hT2⟩
        · rw [z 21 (by omega) (by omega), z 22 (by omega) (by omega), z 23 (by omega) (by omega)]; exact ⟨hS1, hS2⟩
        · rw [z (42 + 2 * k) (by omega) (by omega), z (43 + 2 * k) (by omega) (by omega)]; exact hZ k hk
        · rw [z 0 (by omega) (by omega)]; exact hN
        · rw [z 1 (by omega) (by omega)]; exact hF
  · refine x_iconst 9 dX6_keep_8 rfl ?_
    refine x_iret dX6_keep_9 rfl ⟨rfl, Nat.le_refl _⟩ (qi_i ?_)
    have y1 : aKeep s k = -1 := by (unfold aKeep; rw [if_neg (by omega), if_neg (by omega)])
    have y2 : nKeep s k = s := by (unfold nKeep; rw [if_neg (by omega), if_neg (by omega)])
    rw [y1, y2]; exact PC.same hC rfl

set_option maxHeartbeats 4000000 in
theorem p_back {g : GG} {M : Mem} {s : ST} (hC : Cls M s) (hO : SOK s) (k : Int) (hk : -2147483648 ≤ k ∧ k ≤ 2147483647) : CI g tX6_back 1 [rv g 0, iv k] M (PC M (aBack s k) (nBack s k)) := by
  refine Con.of [some (rv g 0), some (iv k)] (by decide +kernel) rfl (Nat.le_of_ble_eq_true rfl) ?_
  obtain ⟨hV, ⟨hk0, hk1, hi0, hi1⟩, ⟨hT1, hT2⟩, ⟨hS1, hS2⟩, hZ, hN, hF⟩ := id hC
  obtain ⟨oV, oW, oI0, oI1, oT, oTb, oS, oSb, oZ⟩ := id hO
  obtain ⟨e6, e7, e8, e4, e5⟩ := id hV
  have o1 := oV.1
  have o2 := oV.2.1
  have o3 := oV.2.2.1
  refine x_iload_n 1 1 dX6_back_0 rfl rfl (by decide) rfl ?_
  refine x_iconst 2 dX6_back_1 rfl ?_
  refine x_sp 5 [_, _] (c_within _ _ (by omega) (by omega)) mX6_within kX6_70 dX6_back_2 rfl rfl rfl (Nat.le_of_ble_eq_true rfl) (by decide) ?_
  refine x_ifne_b 10 8 dX6_back_5 (by decide) rfl (fun h5 => ?_) (fun h5 => ?_)
  · rcases (show k = 0 ∨ k = 1 by omega) with rfl | rfl
    · refine x_aload_n 11 0 dX6_back_10 rfl rfl (by decide) rfl ?_
      refine x_getR 14 5 19 dX6_back_11 rfl fX6_35 rfl rfl rfl ?_
      refine x_iload_n 15 1 dX6_back_14 rfl rfl (by decide) rfl ?_
      refine x_zaload 16 dX6_back_15 rfl rfl (by omega) (fun g15 => ?_)
      refine x_if_ne 22 19 dX6_back_16 (by decide) rfl (by omega) (fun h16 => ?_) (fun h16 => ?_)
      · have hkv := oI0.1
        have hk : k0 s = 1 := by omega
        refine x_aload_n 23 0 dX6_back_22 rfl rfl (by decide) rfl ?_
        refine x_getR 26 2 4 dX6_back_23 rfl fX6_24 rfl rfl rfl ?_
        refine x_aload_n 27 0 dX6_back_26 rfl rfl (by decide) rfl ?_
        refine x_getR 30 4 18 dX6_back_27 rfl fX6_31 rfl rfl rfl ?_
        refine x_iload_n 31 1 dX6_back_30 rfl rfl (by decide) rfl ?_
        refine x_aaload 32 28 (by decide) dX6_back_31 rfl rfl (by omega) rfl ?_
        refine x_vv 35 [_] (c_become (o := 4) (p := 28) (Or.inl rfl) (Or.inr (Or.inr (Or.inl rfl))) (by decide) (hi0 hk) (oI0.2 hk).1) mX1_become kX6_94 dX6_back_32 rfl rfl ⟨by decide, rfl⟩ rfl rfl (Nat.le_of_ble_eq_true rfl) (by decide) (fun M2 q2 => ?_)
        obtain ⟨hR2, hF2⟩ := q2
        refine x_aload_n 36 0 dX6_back_35 rfl rfl (by decide) rfl ?_
        refine x_getR 39 2 4 dX6_back_36 rfl fX6_24 rfl rfl rfl ?_
        refine x_getI 42 8 8 rfl dX6_back_39 rfl fX6_107 rfl rfl (fun g39 => ?_)
        refine x_iret dX6_back_42 rfl ⟨rfl, Nat.le_refl _⟩ (qi_i ?_)
        have y1 : aBack s 0 = vw (i0 s) := by (show (if k0 s = 1 then vw (i0 s) else -2) = _; rw [if_pos hk])
        have y2 : nBack s 0 = uV s (i0 s) := by (show (if k0 s = 1 then uV s (i0 s) else s) = _; rw [if_pos hk])
        rw [y1, y2]; exact PC.lg hC hR2.2.2.1 hR2 hF2
      · refine x_bipush 21 dX6_back_19 rfl (by decide) ?_
        refine x_iret dX6_back_21 rfl ⟨rfl, Nat.le_refl _⟩ (qi_i ?_)
        have hkv := oI0.1
        have y1 : aBack s 0 = -2 := by (show (if k0 s = 1 then vw (i0 s) else -2) = -2; rw [if_neg (by omega)])
        have y2 : nBack s 0 = s := by (show (if k0 s = 1 then uV s (i0 s) else s) = s; rw [if_neg (by omega)])
        rw [y1, y2]; exact PC.same hC rfl
    · refine x_aload_n 11 0 dX6_back_10 rfl rfl (by decide) rfl ?_
      refine x_getR 14 5 19 dX6_back_11 rfl fX6_35 rfl rfl rfl ?_
      refine x_iload_n 15 1 dX6_back_14 rfl rfl (by decide) rfl ?_
      refine x_zaload 16 dX6_back_15 rfl rfl (by omega) (fun g15 => ?_)
      refine x_if_ne 22 19 dX6_back_16 (by decide) rfl (by omega) (fun h16 => ?_) (fun h16 => ?_)
      · have hkv := oI1.1
        have hk : k1 s = 1 := by omega
        refine x_aload_n 23 0 dX6_back_22 rfl rfl (by decide) rfl ?_
        refine x_getR 26 2 4 dX6_back_23 rfl fX6_24 rfl rfl rfl ?_
        refine x_aload_n 27 0 dX6_back_26 rfl rfl (by decide) rfl ?_
        refine x_getR 30 4 18 dX6_back_27 rfl fX6_31 rfl rfl rfl ?_
        refine x_iload_n 31 1 dX6_back_30 rfl rfl (by decide) rfl ?_
        refine x_aaload 32 35 (by decide) dX6_back_31 rfl rfl (by omega) rfl ?_
        refine x_vv 35 [_] (c_become (o := 4) (p := 35) (Or.inl rfl) (Or.inr (Or.inr (Or.inr rfl))) (by decide) (hi1 hk) (oI1.2 hk).1) mX1_become kX6_94 dX6_back_32 rfl rfl ⟨by decide, rfl⟩ rfl rfl (Nat.le_of_ble_eq_true rfl) (by decide) (fun M2 q2 => ?_)
        obtain ⟨hR2, hF2⟩ := q2
        refine x_aload_n 36 0 dX6_back_35 rfl rfl (by decide) rfl ?_
        refine x_getR 39 2 4 dX6_back_36 rfl fX6_24 rfl rfl rfl ?_
        refine x_getI 42 8 8 rfl dX6_back_39 rfl fX6_107 rfl rfl (fun g39 => ?_)
        refine x_iret dX6_back_42 rfl ⟨rfl, Nat.le_refl _⟩ (qi_i ?_)
        have y1 : aBack s 1 = vw (i1 s) := by (show (if k1 s = 1 then vw (i1 s) else -2) = _; rw [if_pos hk])
        have y2 : nBack s 1 = uV s (i1 s) := by (show (if k1 s = 1 then uV s (i1 s) else s) = _; rw [if_pos hk])
        rw [y1, y2]; exact PC.lg hC hR2.2.2.1 hR2 hF2
      · refine x_bipush 21 dX6_back_19 rfl (by decide) ?_
        refine x_iret dX6_back_21 rfl ⟨rfl, Nat.le_refl _⟩ (qi_i ?_)
        have hkv := oI1.1
        have y1 : aBack s 1 = -2 := by (show (if k1 s = 1 then vw (i1 s) else -2) = -2; rw [if_neg (by omega)])
        have y2 : nBack s 1 = s := by (show (if k1 s = 1 then uV s (i1 s) else s) = s; rw [if_neg (by omega)])
        rw [y1, y2]; exact PC.same hC rfl
  · refine x_iconst 9 dX6_back_8 rfl ?_
    refine x_iret dX6_back_9 rfl ⟨rfl, Nat.le_refl _⟩ (qi_i ?_)
    have y1 : aBack s k = -1 := by (unfold aBack; rw [if_neg (by omega), if_neg (by omega)])
    have y2 : nBack s k = s := by (unfold nBack; rw [if_neg (by omega), if_neg (by omega)])
    rw [y1, y2]; exact PC.same hC rfl

set_option maxHeartbeats 4000000 in
theorem p_sheet {g : GG} {M : Mem} {s : ST} (hC : Cls M s) (hO : SOK s) (k l n : Int) (hk : -2147483648 ≤ k ∧ k ≤ 2147483647) (hl : -2147483648 ≤ l ∧ l ≤ 2147483647) (hn : -2147483648 ≤ n ∧ n ≤ 2147483647) : CI g tX6_sheet 1 [rv g 0, iv k, iv l, iv n] M (PC M (aSheet s k l n) (nSheet s k l n)) := by
  refine Con.of [some (rv g 0), some (iv k), some (iv l), some (iv n)] (by decide +kernel) rfl (Nat.le_of_ble_eq_true rfl) ?_
  obtain ⟨hV, ⟨hk0, hk1, hi0, hi1⟩, ⟨hT1, hT2⟩, ⟨hS1, hS2⟩, hZ, hN, hF⟩ := id hC
  obtain ⟨oV, oW, oI0, oI1, oT, oTb, oS, oSb, oZ⟩ := id hO
  obtain ⟨e6, e7, e8, e4, e5⟩ := id hV
  have o1 := oV.1
  have o2 := oV.2.1
  have o3 := oV.2.2.1
  refine x_iload_n 1 1 dX6_sheet_0 rfl rfl (by decide) rfl ?_
  refine x_iconst 2 dX6_sheet_1 rfl ?_
  refine x_sp 5 [_, _] (c_within _ _ (by omega) (by omega)) mX6_within kX6_70 dX6_sheet_2 rfl rfl rfl (Nat.le_of_ble_eq_true rfl) (by decide) ?_
  refine x_ifeq_b 22 8 dX6_sheet_5 (by decide) rfl (fun h5 => ?_) (fun h5 => ?_)
  · refine x_iconst 23 dX6_sheet_22 rfl ?_
    refine x_iret dX6_sheet_23 rfl ⟨rfl, Nat.le_refl _⟩ (qi_i ?_)
    have y1 : aSheet s k l n = -1 := by (unfold aSheet; rw [if_neg (by omega)])
    have y2 : nSheet s k l n = s := by (unfold nSheet; rw [if_neg (by omega)])
    rw [y1, y2]; exact PC.same hC rfl
  · refine x_iload_n 9 2 dX6_sheet_8 rfl rfl (by decide) rfl ?_
    refine x_iconst 10 dX6_sheet_9 rfl ?_
    refine x_sp 13 [_, _] (c_within _ _ (by omega) (by omega)) mX6_within kX6_70 dX6_sheet_10 rfl rfl rfl (Nat.le_of_ble_eq_true rfl) (by decide) ?_
    refine x_ifeq_b 22 16 dX6_sheet_13 (by decide) rfl (fun h13 => ?_) (fun h13 => ?_)
    · refine x_iconst 23 dX6_sheet_22 rfl ?_
      refine x_iret dX6_sheet_23 rfl ⟨rfl, Nat.le_refl _⟩ (qi_i ?_)
      have y1 : aSheet s k l n = -1 := by (unfold aSheet; rw [if_neg (by omega)])
      have y2 : nSheet s k l n = s := by (unfold nSheet; rw [if_neg (by omega)])
      rw [y1, y2]; exact PC.same hC rfl
    · refine x_iload_n 17 3 dX6_sheet_16 rfl rfl (by decide) rfl ?_
      refine x_bipush 19 dX6_sheet_17 rfl (by decide) ?_
      refine x_icmp_le 24 22 dX6_sheet_19 (by decide) rfl (by omega) (fun h19 => ?_) (fun h19 => ?_)
      · refine x_iload_n 25 3 dX6_sheet_24 rfl rfl (by decide) rfl ?_
        refine x_if_ge 31 28 dX6_sheet_25 (by decide) rfl (by omega) (fun h25 => ?_) (fun h25 => ?_)
        · obtain ⟨K, rfl⟩ := Int.eq_ofNat_of_zero_le (show 0 ≤ k by omega)
          have hK : K < 4 := by omega
          have hq := isSt_k hK
          have hj := R0_20 hK
          obtain ⟨z2, z1, zc3⟩ := hZ K hK
          obtain ⟨oz, ol, oc⟩ := oZ K hK
          obtain ⟨N, rfl⟩ := Int.eq_ofNat_of_zero_le (show 0 ≤ n by omega)
          refine x_aload_n 32 0 dX6_sheet_31 rfl rfl (by decide) rfl ?_
          refine x_getR 35 6 20 dX6_sheet_32 rfl fX6_41 rfl rfl rfl ?_
          refine x_iload_n 36 1 dX6_sheet_35 rfl rfl (by decide) rfl ?_
          refine x_aaload 37 (42 + 2 * K) (by decide) dX6_sheet_36 rfl rfl (by omega) hj ?_
          refine x_iload_n 38 2 dX6_sheet_37 rfl rfl (by decide) rfl ?_
          refine x_iload_n 39 3 dX6_sheet_38 rfl rfl (by decide) rfl ?_
          refine x_vv 42 [_, _] (c_renew hq l (by omega) N (by omega)) mX2_renew kX6_271 dX6_sheet_39 rfl (st_s hq) ⟨by decide, rfl⟩ rfl rfl (Nat.le_of_ble_eq_true rfl) (by decide) (fun M2 q2 => ?_)
          obtain ⟨h1, h2, h3, h4⟩ := q2
          refine x_iconst 43 dX6_sheet_42 rfl ?_
          refine x_iret dX6_sheet_43 rfl ⟨rfl, Nat.le_refl _⟩ (qi_i ?_)
          have y1 : aSheet s K l N = 1 := by (unfold aSheet; rw [if_pos (by omega), if_neg (by omega)])
          have y2 : nSheet s K l N = uZ s (up1 (zz s) K N) (up1 (zl s) K l) (up1 (zc s) K (fun _ => 0)) := by (unfold nSheet; rw [if_pos (by omega), if_neg (by omega), Int.toNat_natCast])
          rw [y1, y2]
          have z : ∀ a, (a < 42 + 2 * K ∨ 43 + 2 * K < a) → M2 a = M a := fun a h => h4 a (by omega) (by omega)
          refine ⟨rfl, ⟨hV.keep (fun a x y => z a (by omega)), ⟨?_, ?_, fun q => (hi0 q).keep (fun a x y => z a (by omega)), fun q => (hi1 q).keep (fun a x y => z a (by omega))⟩, ?_, ?_, fun k hk => ?_, ?_, ?_⟩, fun a ha => z a (by omega)⟩
          · rw [z 19 (by omega)]; exact hk0
          · rw [z 19 (by omega)]; exact hk1
          · rw [z 2 (by omega), z 3 (by omega)]; exact ⟨hT1, hT2⟩
          · rw [z 21 (by omega), z 22 (by omega), z 23 (by omega)]; exact ⟨hS1, hS2⟩
          · show M2 (42 + 2 * k) 2 = up1 (zz s) K N k ∧ (up1 (zz s) K N k ≠ -1 → M2 (42 + 2 * k) 1 = up1 (zl s) K l k) ∧ ∀ i, 0 ≤ i → i < up1 (zz s) K N k → M2 (43 + 2 * k) i = up1 (zc s) K (fun _ => 0) k i
            unfold up1
            by_cases e : k = K
            · subst e; rw [if_pos rfl, if_pos rfl, if_pos rfl, show 43 + 2 * k = 42 + 2 * k + 1 by omega]; exact ⟨h2, fun _ => h1, h3⟩
            · rw [if_neg e, if_neg e, if_neg e, z (42 + 2 * k) (by omega), z (43 + 2 * k) (by omega)]; exact hZ k hk
          · rw [z 0 (by omega)]; exact hN
          · rw [z 1 (by omega)]; exact hF
        · refine x_bipush 30 dX6_sheet_28 rfl (by decide) ?_
          refine x_iret dX6_sheet_30 rfl ⟨rfl, Nat.le_refl _⟩ (qi_i ?_)
          have y1 : aSheet s k l n = -14 := by (unfold aSheet; rw [if_pos (by omega), if_pos (by omega)])
          have y2 : nSheet s k l n = s := by (unfold nSheet; rw [if_pos (by omega), if_pos (by omega)])
          rw [y1, y2]; exact PC.same hC rfl
      · refine x_iconst 23 dX6_sheet_22 rfl ?_
        refine x_iret dX6_sheet_23 rfl ⟨rfl, Nat.le_refl _⟩ (qi_i ?_)
        have y1 : aSheet s k l n = -1 := by (unfold aSheet; rw [if_neg (by omega)])
        have y2 : nSheet s k l n = s := by (unfold nSheet; rw [if_neg (by omega)])
        rw [y1, y2]; exact PC.same hC rfl

set_option maxHeartbeats 4000000 in
theorem p_lay {g : GG} {M : Mem} {s : ST} (hC : Cls M s) (hO : SOK s) (k i v : Int) (hk : -2147483648 ≤ k ∧ k ≤ 2147483647) (hi : -2147483648 ≤ i ∧ i ≤ 2147483647) (hv : -2147483648 ≤ v ∧ v ≤ 2147483647) : CI g tX6_lay 1 [rv g 0, iv k, iv i, iv v] M (PC M (aLay s k i v) (nLay s k i v)) := by
  refine Con.of [some (rv g 0), some (iv k), some (iv i), some (iv v), none] (by decide +kernel) rfl (Nat.le_of_ble_eq_true rfl) ?_
  obtain ⟨hV, ⟨hk0, hk1, hi0, hi1⟩, ⟨hT1, hT2⟩, ⟨hS1, hS2⟩, hZ, hN, hF⟩ := id hC
  obtain ⟨oV, oW, oI0, oI1, oT, oTb, oS, oSb, oZ⟩ := id hO
  obtain ⟨e6, e7, e8, e4, e5⟩ := id hV
  have o1 := oV.1
  have o2 := oV.2.1
  have o3 := oV.2.2.1
  refine x_iload_n 1 1 dX6_lay_0 rfl rfl (by decide) rfl ?_
  refine x_iconst 2 dX6_lay_1 rfl ?_
  refine x_sp 5 [_, _] (c_within _ _ (by omega) (by omega)) mX6_within kX6_70 dX6_lay_2 rfl rfl rfl (Nat.le_of_ble_eq_true rfl) (by decide) ?_
  refine x_ifne_b 10 8 dX6_lay_5 (by decide) rfl (fun h5 => ?_) (fun h5 => ?_)
  · obtain ⟨K, rfl⟩ := Int.eq_ofNat_of_zero_le (show 0 ≤ k by omega)
    have hK : K < 4 := by omega
    have hq := isSt_k hK
    have hj := R0_20 hK
    obtain ⟨z2, z1, zc3⟩ := hZ K hK
    obtain ⟨oz, ol, oc⟩ := oZ K hK
    refine x_aload_n 11 0 dX6_lay_10 rfl rfl (by decide) rfl ?_
    refine x_getR 14 6 20 dX6_lay_11 rfl fX6_41 rfl rfl rfl ?_
    refine x_iload_n 15 1 dX6_lay_14 rfl rfl (by decide) rfl ?_
    refine x_aaload 16 (42 + 2 * K) (by decide) dX6_lay_15 rfl rfl (by omega) hj ?_
    refine x_astore 18 4 _ dX6_lay_16 rfl (by decide) rfl rfl ?_
    refine x_aload 20 4 dX6_lay_18 rfl (by decide) rfl ?_
    refine x_vp 23 [] (c_isThere hq) mX2_isThere kX6_274 dX6_lay_20 rfl (st_s hq) ⟨by decide, rfl⟩ rfl rfl (Nat.le_of_ble_eq_true rfl) (by decide) ?_
    refine x_ifne_b 29 26 dX6_lay_23 (by decide) rfl (fun h23 => ?_) (fun h23 => ?_)
    · refine x_aload 31 4 dX6_lay_29 rfl (by decide) rfl ?_
      refine x_iload_n 32 2 dX6_lay_31 rfl rfl (by decide) rfl ?_
      refine x_vp 35 [_] (c_hasCell hq i hi) mX2_hasCell kX6_278 dX6_lay_32 rfl (st_s hq) ⟨by decide, rfl⟩ rfl rfl (Nat.le_of_ble_eq_true rfl) (by decide) ?_
      refine x_ifne_b 41 38 dX6_lay_35 (by decide) rfl (fun h35 => ?_) (fun h35 => ?_)
      · refine x_aload 43 4 dX6_lay_41 rfl (by decide) rfl ?_
        refine x_iload_n 44 2 dX6_lay_43 rfl rfl (by decide) rfl ?_
        refine x_iload_n 45 3 dX6_lay_44 rfl rfl (by decide) rfl ?_
        refine x_vv 48 [_, _] (c_put hq i v (by omega) hv) mX2_put kX6_281 dX6_lay_45 rfl (st_s hq) ⟨by decide, rfl⟩ rfl rfl (Nat.le_of_ble_eq_true rfl) (by decide) (fun M2 q9 => ?_)
        refine x_iconst 49 dX6_lay_48 rfl ?_
        refine x_iret dX6_lay_49 rfl ⟨rfl, Nat.le_refl _⟩ (qi_i ?_)
        have y1 : aLay s K i v = 1 := by (unfold aLay; rw [if_pos (by omega), Int.toNat_natCast, if_neg (by omega), if_pos (by omega)])
        have y2 : nLay s K i v = uZ s (zz s) (zl s) (up1 (zc s) K (fu (zc s K) i (nrw (zl s K) v))) := by (unfold nLay; rw [Int.toNat_natCast, if_pos (by omega)])
        rw [y1, y2]
        have z : ∀ a, a ≠ 42 + 2 * K + 1 → M2 a = M a := fun a h => by rw [q9]; exact up2_o _ _ _ h
        refine ⟨rfl, ⟨hV.keep (fun a x y => z a (by omega)), ⟨?_, ?_, fun q => (hi0 q).keep (fun a x y => z a (by omega)), fun q => (hi1 q).keep (fun a x y => z a (by omega))⟩, ?_, ?_, fun k hk => ?_, ?_, ?_⟩, fun a ha => z a (by omega)⟩
        · rw [z 19 (by omega)]; exact hk0
        · rw [z 19 (by omega)]; exact hk1
        · rw [z 2 (by omega), z 3 (by omega)]; exact ⟨hT1, hT2⟩
        · rw [z 21 (by omega), z 22 (by omega), z 23 (by omega)]; exact ⟨hS1, hS2⟩
        · show M2 (42 + 2 * k) 2 = zz s k ∧ (zz s k ≠ -1 → M2 (42 + 2 * k) 1 = zl s k) ∧ ∀ j, 0 ≤ j → j < zz s k → M2 (43 + 2 * k) j = up1 (zc s) K (fu (zc s K) i (nrw (zl s K) v)) k j
          rw [z (42 + 2 * k) (by omega)]
          refine ⟨(hZ k hk).1, (hZ k hk).2.1, fun j a b => ?_⟩
          unfold up1
          by_cases e : k = K
          · subst e
            rw [if_pos rfl, q9, show 43 + 2 * k = 42 + 2 * k + 1 by omega, up2_i, z1 (by omega)]
            unfold fu
            by_cases e2 : j = i
            · rw [if_pos e2, if_pos e2]
            · rw [if_neg e2, if_neg e2, show 42 + 2 * k + 1 = 43 + 2 * k by omega]; exact zc3 j a b
          · rw [if_neg e, z (43 + 2 * k) (by omega)]; exact (hZ k hk).2.2 j a b
        · rw [z 0 (by omega)]; exact hN
        · rw [z 1 (by omega)]; exact hF
      · refine x_bipush 40 dX6_lay_38 rfl (by decide) ?_
        refine x_iret dX6_lay_40 rfl ⟨rfl, Nat.le_refl _⟩ (qi_i ?_)
        have y1 : aLay s K i v = -12 := by (unfold aLay; rw [if_pos (by omega), Int.toNat_natCast, if_neg (by omega), if_neg (by omega)])
        have y2 : nLay s K i v = s := by (unfold nLay; rw [Int.toNat_natCast, if_neg (by omega)])
        rw [y1, y2]; exact PC.same hC rfl
    · refine x_bipush 28 dX6_lay_26 rfl (by decide) ?_
      refine x_iret dX6_lay_28 rfl ⟨rfl, Nat.le_refl _⟩ (qi_i ?_)
      have y1 : aLay s K i v = -11 := by (unfold aLay; rw [if_pos (by omega), Int.toNat_natCast, if_pos (by omega)])
      have y2 : nLay s K i v = s := by (unfold nLay; rw [Int.toNat_natCast, if_neg (by omega)])
      rw [y1, y2]; exact PC.same hC rfl
  · refine x_iconst 9 dX6_lay_8 rfl ?_
    refine x_iret dX6_lay_9 rfl ⟨rfl, Nat.le_refl _⟩ (qi_i ?_)
    have y1 : aLay s k i v = -1 := by (unfold aLay; rw [if_neg (by omega)])
    have y2 : nLay s k i v = s := by (unfold nLay; rw [if_neg (by omega)])
    rw [y1, y2]; exact PC.same hC rfl

set_option maxHeartbeats 4000000 in
theorem p_torn {g : GG} {M : Mem} {s : ST} (hC : Cls M s) (hO : SOK s) : CI g tX6_torn 0 [rv g 0] M (PC M (tn s) s) := by
  refine Con.of [some (rv g 0)] (by decide +kernel) rfl (Nat.le_of_ble_eq_true rfl) ?_
  obtain ⟨hV, ⟨hk0, hk1, hi0, hi1⟩, ⟨hT1, hT2⟩, ⟨hS1, hS2⟩, hZ, hN, hF⟩ := id hC
  obtain ⟨oV, oW, oI0, oI1, oT, oTb, oS, oSb, oZ⟩ := id hO
  obtain ⟨e6, e7, e8, e4, e5⟩ := id hV
  have o1 := oV.1
  have o2 := oV.2.1
  have o3 := oV.2.2.1
  refine x_aload_n 1 0 dX6_torn_0 rfl rfl (by decide) rfl ?_
  refine x_getI 4 12 12 rfl dX6_torn_1 rfl fX6_287 rfl rfl (fun g1 => ?_)
  refine x_iret dX6_torn_4 rfl ⟨rfl, Nat.le_refl _⟩ (qi_i ?_)
  exact PC.same hC hN

set_option maxHeartbeats 4000000 in
theorem p_count {g : GG} {M : Mem} {s : ST} (hC : Cls M s) (hO : SOK s) (w : Int) (hw : -2147483648 ≤ w ∧ w ≤ 2147483647) : CI g tX6_count 1 [rv g 0, iv w] M (PC M (aCount s w) s) := by
  refine Con.of [some (rv g 0), some (iv w)] (by decide +kernel) rfl (Nat.le_of_ble_eq_true rfl) ?_
  obtain ⟨hV, ⟨hk0, hk1, hi0, hi1⟩, ⟨hT1, hT2⟩, ⟨hS1, hS2⟩, hZ, hN, hF⟩ := id hC
  obtain ⟨oV, oW, oI0, oI1, oT, oTb, oS, oSb, oZ⟩ := id hO
  obtain ⟨e6, e7, e8, e4, e5⟩ := id hV
  have o1 := oV.1
  have o2 := oV.2.1
  have o3 := oV.2.2.1
  have z0 := hZ 0 (by omega)
  have oz0 := oZ 0 (by omega)
  have z02 : M 42 2 = zz s 0 := z0.1
  refine x_iload_n 1 1 dX6_count_0 rfl rfl (by decide) rfl ?_
  refine x_tsw 143 dX6_count_1 (by decide) (by omega) (fun h1 => ?_) (fun c1 hl1 hh1 hx1 => ?_)
  · refine x_iconst 144 dX6_count_143 rfl ?_
    refine x_iret dX6_count_144 rfl ⟨rfl, Nat.le_refl _⟩ (qi_i ?_)
    refine PC.same hC ?_
    unfold aCount
    first | (rw [if_neg (by omega), if_neg (by omega), if_neg (by omega), if_neg (by omega), if_neg (by omega), if_neg (by omega)]; done) | (subst hx1; first | exact hS1 | exact hT1 | rfl | (show _ = k0 s + k1 s; omega) | (show _ = if zz s 0 = -1 then (-4 : Int) else zz s 0; first | rw [if_pos (by omega)] | (rw [if_neg (by omega)]; exact z02)))
  · rcases (show c1 = 0 ∨ c1 = 1 ∨ c1 = 2 ∨ c1 = 3 ∨ c1 = 4 ∨ c1 = 5 by omega) with rfl | rfl | rfl | rfl | rfl | rfl
    · refine ⟨39, 40, rfl, by decide, ?_⟩
      refine x_aload_n 41 0 dX6_count_40 rfl rfl (by decide) rfl ?_
      refine x_getR 44 7 21 dX6_count_41 rfl fX6_48 rfl rfl rfl ?_
      refine x_getI 47 2 2 rfl dX6_count_44 rfl fX6_98 rfl rfl (fun g44 => ?_)
      refine x_iret dX6_count_47 rfl ⟨rfl, Nat.le_refl _⟩ (qi_i ?_)
      refine PC.same hC ?_
      unfold aCount
      first | (rw [if_neg (by omega), if_neg (by omega), if_neg (by omega), if_neg (by omega), if_neg (by omega), if_neg (by omega)]; done) | (subst hx1; first | exact hS1 | exact hT1 | rfl | (show _ = k0 s + k1 s; omega) | (show _ = if zz s 0 = -1 then (-4 : Int) else zz s 0; first | rw [if_pos (by omega)] | (rw [if_neg (by omega)]; exact z02)))
    · refine ⟨47, 48, rfl, by decide, ?_⟩
      have ha := oI0.1
      have hb := oI1.1
      refine x_aload_n 49 0 dX6_count_48 rfl rfl (by decide) rfl ?_
      refine x_getR 52 5 19 dX6_count_49 rfl fX6_35 rfl rfl rfl ?_
      refine x_iconst 53 dX6_count_52 rfl ?_
      refine x_zaload 54 dX6_count_53 rfl rfl (by omega) (fun g53 => ?_)
      refine x_if_eq 61 57 dX6_count_54 (by decide) rfl (by omega) (fun h54 => ?_) (fun h54 => ?_)
      · refine x_iconst 62 dX6_count_61 rfl ?_
        refine x_aload_n 63 0 dX6_count_62 rfl rfl (by decide) rfl ?_
        refine x_getR 66 5 19 dX6_count_63 rfl fX6_35 rfl rfl rfl ?_
        refine x_iconst 67 dX6_count_66 rfl ?_
        refine x_zaload 68 dX6_count_67 rfl rfl (by omega) (fun g67 => ?_)
        refine x_if_eq 75 71 dX6_count_68 (by decide) rfl (by omega) (fun h68 => ?_) (fun h68 => ?_)
        · refine x_iconst 76 dX6_count_75 rfl ?_
          refine x_iadd 77 dX6_count_76 rfl ?_
          refine x_iret dX6_count_77 rfl ⟨rfl, Nat.le_refl _⟩ (qi_i ?_)
          refine PC.same hC ?_
          unfold aCount
          first | (rw [if_neg (by omega), if_neg (by omega), if_neg (by omega), if_neg (by omega), if_neg (by omega), if_neg (by omega)]; done) | (subst hx1; first | exact hS1 | exact hT1 | rfl | (show _ = k0 s + k1 s; omega) | (show _ = if zz s 0 = -1 then (-4 : Int) else zz s 0; first | rw [if_pos (by omega)] | (rw [if_neg (by omega)]; exact z02)))
        · refine x_iconst 72 dX6_count_71 rfl ?_
          refine x_goto 76 dX6_count_72 (by decide) ?_
          refine x_iadd 77 dX6_count_76 rfl ?_
          refine x_iret dX6_count_77 rfl ⟨rfl, Nat.le_refl _⟩ (qi_i ?_)
          refine PC.same hC ?_
          unfold aCount
          first | (rw [if_neg (by omega), if_neg (by omega), if_neg (by omega), if_neg (by omega), if_neg (by omega), if_neg (by omega)]; done) | (subst hx1; first | exact hS1 | exact hT1 | rfl | (show _ = k0 s + k1 s; omega) | (show _ = if zz s 0 = -1 then (-4 : Int) else zz s 0; first | rw [if_pos (by omega)] | (rw [if_neg (by omega)]; exact z02)))
      · refine x_iconst 58 dX6_count_57 rfl ?_
        refine x_goto 62 dX6_count_58 (by decide) ?_
        refine x_aload_n 63 0 dX6_count_62 rfl rfl (by decide) rfl ?_
        refine x_getR 66 5 19 dX6_count_63 rfl fX6_35 rfl rfl rfl ?_
        refine x_iconst 67 dX6_count_66 rfl ?_
        refine x_zaload 68 dX6_count_67 rfl rfl (by omega) (fun g67 => ?_)
        refine x_if_eq 75 71 dX6_count_68 (by decide) rfl (by omega) (fun h68 => ?_) (fun h68 => ?_)
        · refine x_iconst 76 dX6_count_75 rfl ?_
          refine x_iadd 77 dX6_count_76 rfl ?_
          refine x_iret dX6_count_77 rfl ⟨rfl, Nat.le_refl _⟩ (qi_i ?_)
          refine PC.same hC ?_
          unfold aCount
          first | (rw [if_neg (by omega), if_neg (by omega), if_neg (by omega), if_neg (by omega), if_neg (by omega), if_neg (by omega)]; done) | (subst hx1; first | exact hS1 | exact hT1 | rfl | (show _ = k0 s + k1 s; omega) | (show _ = if zz s 0 = -1 then (-4 : Int) else zz s 0; first | rw [if_pos (by omega)] | (rw [if_neg (by omega)]; exact z02)))
        · refine x_iconst 72 dX6_count_71 rfl ?_
          refine x_goto 76 dX6_count_72 (by decide) ?_
          refine x_iadd 77 dX6_count_76 rfl ?_
          refine x_iret dX6_count_77 rfl ⟨rfl, Nat.le_refl _⟩ (qi_i ?_)
          refine PC.same hC ?_
          unfold aCount
          first | (rw [if_neg (by omega), if_neg (by omega), if_neg (by omega), if_neg (by omega), if_neg (by omega), if_neg (by omega)]; done) | (subst hx1; first | exact hS1 | exact hT1 | rfl | (show _ = k0 s + k1 s; omega) | (show _ = if zz s 0 = -1 then (-4 : Int) else zz s 0; first | rw [if_pos (by omega)] | (rw [if_neg (by omega)]; exact z02)))
    · refine ⟨77, 78, rfl, by decide, ?_⟩
      refine x_aload_n 79 0 dX6_count_78 rfl rfl (by decide) rfl ?_
      refine x_getR 82 1 2 dX6_count_79 rfl fX6_20 rfl rfl rfl ?_
      refine x_getI 85 1 1 rfl dX6_count_82 rfl fX6_80 rfl rfl (fun g82 => ?_)
      refine x_iret dX6_count_85 rfl ⟨rfl, Nat.le_refl _⟩ (qi_i ?_)
      refine PC.same hC ?_
      unfold aCount
      first | (rw [if_neg (by omega), if_neg (by omega), if_neg (by omega), if_neg (by omega), if_neg (by omega), if_neg (by omega)]; done) | (subst hx1; first | exact hS1 | exact hT1 | rfl | (show _ = k0 s + k1 s; omega) | (show _ = if zz s 0 = -1 then (-4 : Int) else zz s 0; first | rw [if_pos (by omega)] | (rw [if_neg (by omega)]; exact z02)))
    · refine ⟨85, 86, rfl, by decide, ?_⟩
      refine x_aload_n 87 0 dX6_count_86 rfl rfl (by decide) rfl ?_
      refine x_getR 90 6 20 dX6_count_87 rfl fX6_41 rfl rfl rfl ?_
      refine x_iconst 91 dX6_count_90 rfl ?_
      refine x_aaload 92 42 (by decide) dX6_count_91 rfl rfl (by omega) rfl ?_
      refine x_vp 95 [] (c_isThere (Or.inl rfl)) mX2_isThere kX6_274 dX6_count_92 rfl rfl ⟨by decide, rfl⟩ rfl rfl (Nat.le_of_ble_eq_true rfl) (by decide) ?_
      refine x_ifeq_b 110 98 dX6_count_95 (by decide) rfl (fun h95 => ?_) (fun h95 => ?_)
      · refine x_bipush 112 dX6_count_110 rfl (by decide) ?_
        refine x_iret dX6_count_112 rfl ⟨rfl, Nat.le_refl _⟩ (qi_i ?_)
        refine PC.same hC ?_
        unfold aCount
        first | (rw [if_neg (by omega), if_neg (by omega), if_neg (by omega), if_neg (by omega), if_neg (by omega), if_neg (by omega)]; done) | (subst hx1; first | exact hS1 | exact hT1 | rfl | (show _ = k0 s + k1 s; omega) | (show _ = if zz s 0 = -1 then (-4 : Int) else zz s 0; first | rw [if_pos (by omega)] | (rw [if_neg (by omega)]; exact z02)))
      · refine x_aload_n 99 0 dX6_count_98 rfl rfl (by decide) rfl ?_
        refine x_getR 102 6 20 dX6_count_99 rfl fX6_41 rfl rfl rfl ?_
        refine x_iconst 103 dX6_count_102 rfl ?_
        refine x_aaload 104 42 (by decide) dX6_count_103 rfl rfl (by omega) rfl ?_
        refine x_getI 107 2 2 rfl dX6_count_104 rfl fX6_293 rfl rfl (fun g104 => ?_)
        refine x_goto 112 dX6_count_107 (by decide) ?_
        refine x_iret dX6_count_112 rfl ⟨rfl, Nat.le_refl _⟩ (qi_i ?_)
        refine PC.same hC ?_
        unfold aCount
        first | (rw [if_neg (by omega), if_neg (by omega), if_neg (by omega), if_neg (by omega), if_neg (by omega), if_neg (by omega)]; done) | (subst hx1; first | exact hS1 | exact hT1 | rfl | (show _ = k0 s + k1 s; omega) | (show _ = if zz s 0 = -1 then (-4 : Int) else zz s 0; first | rw [if_pos (by omega)] | (rw [if_neg (by omega)]; exact z02)))
    · refine ⟨112, 113, rfl, by decide, ?_⟩
      refine x_aload_n 114 0 dX6_count_113 rfl rfl (by decide) rfl ?_
      refine x_getR 117 2 4 dX6_count_114 rfl fX6_24 rfl rfl rfl ?_
      refine x_aload_n 118 0 dX6_count_117 rfl rfl (by decide) rfl ?_
      refine x_getR 121 2 4 dX6_count_118 rfl fX6_24 rfl rfl rfl ?_
      refine x_getR 124 1 6 dX6_count_121 rfl fX6_126 rfl rfl rfl ?_
      refine x_vp 127 [_] (by have z := c_sumOver (g := g) (M := M) (o := 4) (q := 6) (Or.inl rfl) rfl (vn (sV s)).toNat (by omega) (by omega) (fun t a b => by (have q : M 6 t = vS (sV s) t := (e4 t a (by omega)).2.1; have q2 := oV.2.2.2.1 t a (by omega); omega)); rw [sumN_cong (f2 := vS (sV s)) (vn (sV s)).toNat (fun t a b => (e4 t a (by omega)).2.1)] at z; exact z) mX1_sumOverTowns kX6_294 dX6_count_124 rfl rfl ⟨by decide, rfl⟩ rfl rfl (Nat.le_of_ble_eq_true rfl) (by decide) ?_
      refine x_iret dX6_count_127 rfl ⟨rfl, Nat.le_refl _⟩ (qi_i ?_)
      refine PC.same hC ?_
      unfold aCount
      first | (rw [if_neg (by omega), if_neg (by omega), if_neg (by omega), if_neg (by omega), if_neg (by omega), if_neg (by omega)]; done) | (subst hx1; first | exact hS1 | exact hT1 | rfl | (show _ = k0 s + k1 s; omega) | (show _ = if zz s 0 = -1 then (-4 : Int) else zz s 0; first | rw [if_pos (by omega)] | (rw [if_neg (by omega)]; exact z02)))
    · refine ⟨127, 128, rfl, by decide, ?_⟩
      refine x_aload_n 129 0 dX6_count_128 rfl rfl (by decide) rfl ?_
      refine x_getR 132 2 4 dX6_count_129 rfl fX6_24 rfl rfl rfl ?_
      refine x_aload_n 133 0 dX6_count_132 rfl rfl (by decide) rfl ?_
      refine x_getR 136 2 4 dX6_count_133 rfl fX6_24 rfl rfl rfl ?_
      refine x_getR 139 2 7 dX6_count_136 rfl fX6_129 rfl rfl rfl ?_
      refine x_vp 142 [_] (by have z := c_sumOver (g := g) (M := M) (o := 4) (q := 7) (Or.inl rfl) rfl (vn (sV s)).toNat (by omega) (by omega) (fun t a b => by (have q : M 7 t = vL (sV s) t := (e4 t a (by omega)).2.2.1; have q2 := oV.2.2.2.1 t a (by omega); omega)); rw [sumN_cong (f2 := vL (sV s)) (vn (sV s)).toNat (fun t a b => (e4 t a (by omega)).2.2.1)] at z; exact z) mX1_sumOverTowns kX6_294 dX6_count_139 rfl rfl ⟨by decide, rfl⟩ rfl rfl (Nat.le_of_ble_eq_true rfl) (by decide) ?_
      refine x_iret dX6_count_142 rfl ⟨rfl, Nat.le_refl _⟩ (qi_i ?_)
      refine PC.same hC ?_
      unfold aCount
      first | (rw [if_neg (by omega), if_neg (by omega), if_neg (by omega), if_neg (by omega), if_neg (by omega), if_neg (by omega)]; done) | (subst hx1; first | exact hS1 | exact hT1 | rfl | (show _ = k0 s + k1 s; omega) | (show _ = if zz s 0 = -1 then (-4 : Int) else zz s 0; first | rw [if_pos (by omega)] | (rw [if_neg (by omega)]; exact z02)))
