theorem c_trains {g : GG} {M : Mem} {o : Nat} {v : LV} (ho : isLg o) (t : Int) (ht : 0 ≤ t ∧ t < 5) (hk : M (o + 1) t = vK v t) : CP g tX1_trainsNow 0 [rv g o, iv t] M (trains v t) := by
  have e : (if M (o + 1) t = 1 then (2 : Int) else if M (o + 1) t = 3 then 0 else 1) = trains v t := by unfold trains; rw [hk]
  rw [← e]
  exact c_trainsNow ho t ht

set_option maxHeartbeats 4000000 in
theorem c_plays {g : GG} {M : Mem} {o : Nat} {v : LV} (ho : isLg o) (hR : Rep M o v) (hW : WF v) (t : Int) (ht : 0 ≤ t ∧ t < vn v) : CP g tX1_playsNow 1 [rv g o, iv t] M (plays v t) := by
  refine Con.of [some (rv g o), some (iv t), none, none] (by decide +kernel) rfl (Nat.le_of_ble_eq_true rfl) ?_
  obtain ⟨e1, e2, e3, e4⟩ := hR.2.2.2.1 t ht.1 ht.2
  have h4 := hW.2.2.2.1 t ht.1 ht.2
  have h1 := hW.1
  have hb := pW_bd (v := v) (t := t) h4.2.1
  refine x_aload_n 1 0 dX1_playsNow_0 rfl rfl (by decide) rfl ?_
  refine x_getR 4 1 (o + 2) dX1_playsNow_1 rfl fX1_15 rfl (lg_s ho) (lg_r1 ho) ?_
  refine x_iload_n 5 1 dX1_playsNow_4 rfl rfl (by decide) rfl ?_
  refine x_iaload 6 dX1_playsNow_5 rfl (lg_a1 ho) (by omega) (fun g5 => ?_)
  rw [e2]
  refine x_istore_n 7 2 _ dX1_playsNow_6 rfl rfl (by decide) rfl rfl ?_
  refine x_cut 23 (fun z => z = pW v t) (fun tail7 => ?_) (fun z7 hz7 => ?_)
  · refine x_aload_n 8 0 dX1_playsNow_7 rfl rfl (by decide) rfl ?_
    refine x_getR 11 2 (o + 3) dX1_playsNow_8 rfl fX1_18 rfl (lg_s ho) (lg_r2 ho) ?_
    refine x_iload_n 12 1 dX1_playsNow_11 rfl rfl (by decide) rfl ?_
    refine x_iaload 13 dX1_playsNow_12 rfl (lg_a2 ho) (by omega) (fun g12 => ?_)
    rw [e3]
    refine x_if_ne 22 16 dX1_playsNow_13 (by decide) rfl (by omega) (fun h13 => ?_) (fun h13 => ?_)
    · refine x_iload_n 23 2 dX1_playsNow_22 rfl rfl (by decide) rfl ?_
      exact tail7 _ (by unfold pW; (repeat' split) <;> omega)
    · refine x_iload_n 17 2 dX1_playsNow_16 rfl rfl (by decide) rfl ?_
      refine x_iconst 18 dX1_playsNow_17 rfl ?_
      refine x_idiv 19 dX1_playsNow_18 rfl (by omega) ?_
      refine x_goto 23 dX1_playsNow_19 (by decide) ?_
      exact tail7 _ (by unfold pW; (repeat' split) <;> omega)
  · subst z7
    refine x_istore_n 24 3 _ dX1_playsNow_23 rfl rfl (by decide) rfl rfl ?_
    refine x_aload_n 25 0 dX1_playsNow_24 rfl rfl (by decide) rfl ?_
    refine x_getR 28 0 (o + 1) dX1_playsNow_25 rfl fX1_9 rfl (lg_s ho) (lg_r0 ho) ?_
    refine x_iload_n 29 1 dX1_playsNow_28 rfl rfl (by decide) rfl ?_
    refine x_iaload 30 dX1_playsNow_29 rfl (lg_a0 ho) (by omega) (fun g29 => ?_)
    refine x_tsw 70 dX1_playsNow_30 (by decide) (by omega) (fun h30 => ?_) (fun c30 hl30 hh30 hx30 => ?_)
    · refine x_iload_n 71 2 dX1_playsNow_70 rfl rfl (by decide) rfl ?_
      refine x_iret dX1_playsNow_71 rfl ⟨rfl, Nat.le_refl _⟩ (qp_i ?_ rfl)
      (unfold plays; repeat' split) <;> omega
    · rcases (show c30 = 1 ∨ c30 = 2 ∨ c30 = 3 by omega) with rfl | rfl | rfl
      · refine ⟨26, 56, rfl, by decide, ?_⟩
        refine x_iload_n 57 2 dX1_playsNow_56 rfl rfl (by decide) rfl ?_
        refine x_iconst 58 dX1_playsNow_57 rfl ?_
        refine x_iadd 59 dX1_playsNow_58 rfl ?_
        refine x_iret dX1_playsNow_59 rfl ⟨rfl, Nat.le_refl _⟩ (qp_i ?_ rfl)
        (unfold plays; repeat' split) <;> omega
      · refine ⟨30, 60, rfl, by decide, ?_⟩
        refine x_iload_n 61 3 dX1_playsNow_60 rfl rfl (by decide) rfl ?_
        refine x_iret dX1_playsNow_61 rfl ⟨rfl, Nat.le_refl _⟩ (qp_i ?_ rfl)
        (unfold plays; repeat' split) <;> omega
      · refine ⟨32, 62, rfl, by decide, ?_⟩
        refine x_iconst 63 dX1_playsNow_62 rfl ?_
        refine x_iload_n 64 3 dX1_playsNow_63 rfl rfl (by decide) rfl ?_
        refine x_iconst 65 dX1_playsNow_64 rfl ?_
        refine x_isub 66 dX1_playsNow_65 rfl ?_
        refine x_sp 69 [_, _] (c_imax _ _ (by omega) (by omega)) mJ9_max_7cf53 kX1_59 dX1_playsNow_66 rfl rfl rfl (Nat.le_of_ble_eq_true rfl) (by decide) ?_
        refine x_iret dX1_playsNow_69 rfl ⟨rfl, Nat.le_refl _⟩ (qp_i ?_ rfl)
        (unfold plays; repeat' split) <;> omega

set_option maxHeartbeats 4000000 in
theorem c_weaker {g : GG} {M : Mem} {o : Nat} {v : LV} (ho : isLg o) (hR : Rep M o v) (hW : WF v) (a b : Int) (ha : 0 ≤ a ∧ a < vn v) (hb : 0 ≤ b ∧ b < vn v) : CP g tX1_weaker 2 [rv g o, iv a, iv b] M (weaker v a b) := by
  refine Con.of [some (rv g o), some (iv a), some (iv b), none] (by decide +kernel) rfl (Nat.le_of_ble_eq_true rfl) ?_
  have h4 := plays_bd (hW.2.2.2.1 a ha.1 ha.2).2.1
  have h5 := plays_bd (hW.2.2.2.1 b hb.1 hb.2).2.1
  have h1 := hW.1
  refine x_aload_n 1 0 dX1_weaker_0 rfl rfl (by decide) rfl ?_
  refine x_iload_n 2 1 dX1_weaker_1 rfl rfl (by decide) rfl ?_
  refine x_vp 5 [_] (c_plays ho hR hW _ (by omega)) mX1_playsNow kX1_64 dX1_weaker_2 rfl (lg_s ho) ⟨by decide, rfl⟩ rfl rfl (Nat.le_of_ble_eq_true rfl) (by decide) ?_
  refine x_aload_n 6 0 dX1_weaker_5 rfl rfl (by decide) rfl ?_
  refine x_iload_n 7 2 dX1_weaker_6 rfl rfl (by decide) rfl ?_
  refine x_vp 10 [_] (c_plays ho hR hW _ (by omega)) mX1_playsNow kX1_64 dX1_weaker_7 rfl (lg_s ho) ⟨by decide, rfl⟩ rfl rfl (Nat.le_of_ble_eq_true rfl) (by decide) ?_
  refine x_isub 11 dX1_weaker_10 rfl ?_
  refine x_istore_n 12 3 _ dX1_weaker_11 rfl rfl (by decide) rfl rfl ?_
  refine x_iload_n 13 3 dX1_weaker_12 rfl rfl (by decide) rfl ?_
  refine x_if_ne 19 16 dX1_weaker_13 (by decide) rfl (by omega) (fun h13 => ?_) (fun h13 => ?_)
  · refine x_iload_n 20 3 dX1_weaker_19 rfl rfl (by decide) rfl ?_
    refine x_if_ge 27 23 dX1_weaker_20 (by decide) rfl (by omega) (fun h20 => ?_) (fun h20 => ?_)
    · refine x_iload_n 28 2 dX1_weaker_27 rfl rfl (by decide) rfl ?_
      refine x_iret dX1_weaker_28 rfl ⟨rfl, Nat.le_refl _⟩ (qp_i ?_ rfl)
      (unfold weaker; repeat' split) <;> omega
    · refine x_iload_n 24 1 dX1_weaker_23 rfl rfl (by decide) rfl ?_
      refine x_goto 28 dX1_weaker_24 (by decide) ?_
      refine x_iret dX1_weaker_28 rfl ⟨rfl, Nat.le_refl _⟩ (qp_i ?_ rfl)
      (unfold weaker; repeat' split) <;> omega
  · refine x_bipush 18 dX1_weaker_16 rfl (by decide) ?_
    refine x_iret dX1_weaker_18 rfl ⟨rfl, Nat.le_refl _⟩ (qp_i ?_ rfl)
    (unfold weaker; repeat' split) <;> omega

theorem Rep_beat {M : Mem} {o : Nat} {v : LV} (hR : Rep M o v) {l w x y z : Int} (hx : x = min 99 (vL v l + 1)) (hy : y = min 20 (vS v l + trains v l)) (hz : z = max 0 (vS v w - 1)) : Rep (up2 (up2 (up2 M (o + 3) l x) (o + 2) l y) (o + 2) w z) o (beat v l w) := by
  obtain ⟨r1, r2, r3, r4, r5⟩ := hR
  have q1 : ∀ k : Int, up2 (up2 (up2 M (o + 3) l x) (o + 2) l y) (o + 2) w z o k = M o k := fun k => by
    rw [up2_o _ _ _ (by omega), up2_o _ _ _ (by omega), up2_o _ _ _ (by omega)]
  refine ⟨(q1 6).trans r1, (q1 7).trans r2, (q1 8).trans r3, fun t h1 h2 => ?_, fun i h1 h2 => ?_⟩
  · obtain ⟨e1, e2, e3, e4⟩ := r4 t h1 h2
    refine ⟨?_, ?_, ?_, ?_⟩
    · rw [up2_o _ _ _ (by omega), up2_o _ _ _ (by omega), up2_o _ _ _ (by omega)]; exact e1
    · show _ = fu (fu (vS v) l (min 20 (vS v l + trains v l))) w (max 0 (vS v w - 1)) t
      rw [up2_i, up2_i, up2_o _ _ _ (by omega), hy, hz, e2]
      rfl
    · show _ = fu (vL v) l (min 99 (vL v l + 1)) t
      rw [up2_o _ _ _ (by omega), up2_o _ _ _ (by omega), up2_i, hx, e3]
      rfl
    · rw [up2_o _ _ _ (by omega), up2_o _ _ _ (by omega), up2_o _ _ _ (by omega)]; exact e4
  · rw [up2_o _ _ _ (by omega), up2_o _ _ _ (by omega), up2_o _ _ _ (by omega), up2_o _ _ _ (by omega), up2_o _ _ _ (by omega), up2_o _ _ _ (by omega)]
    exact r5 i h1 h2

set_option maxHeartbeats 4000000 in
theorem c_play {g : GG} {M : Mem} {o : Nat} {v : LV} (ho : isLg o) (hR : Rep M o v) (hW : WF v) (a b : Int) (ha : 0 ≤ a ∧ a < vn v) (hb : 0 ≤ b ∧ b < vn v) (hne : a ≠ b) : CI g tX1_play 3 [rv g o, iv a, iv b] M (fun r M2 => r = weaker v a b ∧ Rep M2 o (game v a b) ∧ Fr o M M2) := by
  refine Con.of [some (rv g o), some (iv a), some (iv b), none, none] (by decide +kernel) rfl (Nat.le_of_ble_eq_true rfl) ?_
  obtain ⟨ea1, ea2, ea3, ea4⟩ := hR.2.2.2.1 a ha.1 ha.2
  obtain ⟨eb1, eb2, eb3, eb4⟩ := hR.2.2.2.1 b hb.1 hb.2
  have h4 := hW.2.2.2.1 a ha.1 ha.2
  have h5 := hW.2.2.2.1 b hb.1 hb.2
  have h1 := hW.1
  have ta := trains_bd v a
  have tb := trains_bd v b
  have hwk := c_weaker (g := g) ho hR hW a b ha hb
  by_cases p1 : plays v a < plays v b
  · have hwe : weaker v a b = a := by unfold weaker; rw [if_pos p1]
    have hge : game v a b = beat v a b := by unfold game; rw [if_pos p1]
    rw [hwe] at hwk
    refine x_aload_n 1 0 dX1_play_0 rfl rfl (by decide) rfl ?_
    refine x_iload_n 2 1 dX1_play_1 rfl rfl (by decide) rfl ?_
    refine x_iload_n 3 2 dX1_play_2 rfl rfl (by decide) rfl ?_
    refine x_vp 6 [_, _] (hwk) mX1_weaker kX1_68 dX1_play_3 rfl (lg_s ho) ⟨by decide, rfl⟩ rfl rfl (Nat.le_of_ble_eq_true rfl) (by decide) ?_
    refine x_istore_n 7 3 _ dX1_play_6 rfl rfl (by decide) rfl rfl ?_
    refine x_iload_n 8 3 dX1_play_7 rfl rfl (by decide) rfl ?_
    refine x_if_lt 85 11 dX1_play_8 (by decide) rfl (by omega) (fun h8 => ?_) (fun h8 => ?_)
    · exfalso; omega
    · refine x_iload_n 12 3 dX1_play_11 rfl rfl (by decide) rfl ?_
      refine x_iload_n 13 1 dX1_play_12 rfl rfl (by decide) rfl ?_
      refine x_icmp_ne 20 16 dX1_play_13 (by decide) rfl (by omega) (fun h13 => ?_) (fun h13 => ?_)
      · exfalso; omega
      · refine x_iload_n 17 2 dX1_play_16 rfl rfl (by decide) rfl ?_
        refine x_goto 21 dX1_play_17 (by decide) ?_
        refine x_istore 23 4 _ dX1_play_21 rfl (by decide) rfl rfl ?_
        refine x_aload_n 24 0 dX1_play_23 rfl rfl (by decide) rfl ?_
        refine x_getR 27 2 (o + 3) dX1_play_24 rfl fX1_18 rfl (lg_s ho) (lg_r2 ho) ?_
        refine x_iload_n 28 3 dX1_play_27 rfl rfl (by decide) rfl ?_
        refine x_bipush 30 dX1_play_28 rfl (by decide) ?_
        refine x_aload_n 31 0 dX1_play_30 rfl rfl (by decide) rfl ?_
        refine x_getR 34 2 (o + 3) dX1_play_31 rfl fX1_18 rfl (lg_s ho) (lg_r2 ho) ?_
        refine x_iload_n 35 3 dX1_play_34 rfl rfl (by decide) rfl ?_
        refine x_iaload 36 dX1_play_35 rfl (lg_a2 ho) (by omega) (fun g35 => ?_)
        refine x_iconst 37 dX1_play_36 rfl ?_
        refine x_iadd 38 dX1_play_37 rfl ?_
        refine x_sp 41 [_, _] (c_imin _ _ (by omega) (by omega)) mJ9_min_7cf53 kX1_71 dX1_play_38 rfl rfl rfl (Nat.le_of_ble_eq_true rfl) (by decide) ?_
        refine x_iastore 42 dX1_play_41 rfl (lg_a2 ho) (by omega) (by omega) ?_
        refine x_aload_n 43 0 dX1_play_42 rfl rfl (by decide) rfl ?_
        refine x_getR 46 1 (o + 2) dX1_play_43 rfl fX1_15 rfl (lg_s ho) (lg_r1 ho) ?_
        refine x_iload_n 47 3 dX1_play_46 rfl rfl (by decide) rfl ?_
        refine x_bipush 49 dX1_play_47 rfl (by decide) ?_
        refine x_aload_n 50 0 dX1_play_49 rfl rfl (by decide) rfl ?_
        refine x_getR 53 1 (o + 2) dX1_play_50 rfl fX1_15 rfl (lg_s ho) (lg_r1 ho) ?_
        refine x_iload_n 54 3 dX1_play_53 rfl rfl (by decide) rfl ?_
        refine x_iaload 55 dX1_play_54 rfl (lg_a1 ho) (by omega) (fun g54 => ?_)
        rw [up2_o _ _ _ (show o + 2 ≠ o + 3 by omega)]
        refine x_aload_n 56 0 dX1_play_55 rfl rfl (by decide) rfl ?_
        refine x_iload_n 57 3 dX1_play_56 rfl rfl (by decide) rfl ?_
        refine x_vp 60 [_] (c_trains (v := v) ho _ (by omega) (by rw [up2_o _ _ _ (show o + 1 ≠ o + 3 by omega)]; exact ea1)) mX1_trainsNow kX1_74 dX1_play_57 rfl (lg_s ho) ⟨by decide, rfl⟩ rfl rfl (Nat.le_of_ble_eq_true rfl) (by decide) ?_
        refine x_iadd 61 dX1_play_60 rfl ?_
        refine x_sp 64 [_, _] (c_imin _ _ (by omega) (by omega)) mJ9_min_7cf53 kX1_71 dX1_play_61 rfl rfl rfl (Nat.le_of_ble_eq_true rfl) (by decide) ?_
        refine x_iastore 65 dX1_play_64 rfl (lg_a1 ho) (by omega) (by omega) ?_
        refine x_aload_n 66 0 dX1_play_65 rfl rfl (by decide) rfl ?_
        refine x_getR 69 1 (o + 2) dX1_play_66 rfl fX1_15 rfl (lg_s ho) (lg_r1 ho) ?_
        refine x_iload 71 4 dX1_play_69 rfl (by decide) rfl ?_
        refine x_iconst 72 dX1_play_71 rfl ?_
        refine x_aload_n 73 0 dX1_play_72 rfl rfl (by decide) rfl ?_
        refine x_getR 76 1 (o + 2) dX1_play_73 rfl fX1_15 rfl (lg_s ho) (lg_r1 ho) ?_
        refine x_iload 78 4 dX1_play_76 rfl (by decide) rfl ?_
        refine x_iaload 79 dX1_play_78 rfl (lg_a1 ho) (by omega) (fun g78 => ?_)
        rw [up2_k _ _ _ (show b ≠ a by omega), up2_o _ _ _ (show o + 2 ≠ o + 3 by omega)]
        refine x_iconst 80 dX1_play_79 rfl ?_
        refine x_isub 81 dX1_play_80 rfl ?_
        refine x_sp 84 [_, _] (c_imax _ _ (by omega) (by omega)) mJ9_max_7cf53 kX1_59 dX1_play_81 rfl rfl rfl (Nat.le_of_ble_eq_true rfl) (by decide) ?_
        refine x_iastore 85 dX1_play_84 rfl (lg_a1 ho) (by omega) (by omega) ?_
        refine x_iload_n 86 3 dX1_play_85 rfl rfl (by decide) rfl ?_
        refine x_iret dX1_play_86 rfl ⟨rfl, Nat.le_refl _⟩ (qi_i ?_)
        refine ⟨hwe.symm, ?_, ?_⟩
        · rw [hge]
          exact Rep_beat hR (by omega) (by omega) (by omega)
        · exact (((Fr.rf o M).up _ _ _ (by omega)).up _ _ _ (by omega)).up _ _ _ (by omega)
  by_cases p2 : plays v b < plays v a
  · have hwe : weaker v a b = b := by unfold weaker; rw [if_neg p1, if_pos p2]
    have hge : game v a b = beat v b a := by unfold game; rw [if_neg p1, if_pos p2]
    rw [hwe] at hwk
    refine x_aload_n 1 0 dX1_play_0 rfl rfl (by decide) rfl ?_
    refine x_iload_n 2 1 dX1_play_1 rfl rfl (by decide) rfl ?_
    refine x_iload_n 3 2 dX1_play_2 rfl rfl (by decide) rfl ?_
    refine x_vp 6 [_, _] (hwk) mX1_weaker kX1_68 dX1_play_3 rfl (lg_s ho) ⟨by decide, rfl⟩ rfl rfl (Nat.le_of_ble_eq_true rfl) (by decide) ?_
    refine x_istore_n 7 3 _ dX1_play_6 rfl rfl (by decide) rfl rfl ?_
    refine x_iload_n 8 3 dX1_play_7 rfl rfl (by decide) rfl ?_
    refine x_if_lt 85 11 dX1_play_8 (by decide) rfl (by omega) (fun h8 => ?_) (fun h8 => ?_)
    · exfalso; omega
    · refine x_iload_n 12 3 dX1_play_11 rfl rfl (by decide) rfl ?_
      refine x_iload_n 13 1 dX1_play_12 rfl rfl (by decide) rfl ?_
      refine x_icmp_ne 20 16 dX1_play_13 (by decide) rfl (by omega) (fun h13 => ?_) (fun h13 => ?_)
      · refine x_iload_n 21 1 dX1_play_20 rfl rfl (by decide) rfl ?_
        refine x_istore 23 4 _ dX1_play_21 rfl (by decide) rfl rfl ?_
        refine x_aload_n 24 0 dX1_play_23 rfl rfl (by decide) rfl ?_
        refine x_getR 27 2 (o + 3) dX1_play_24 rfl fX1_18 rfl (lg_s ho) (lg_r2 ho) ?_
        refine x_iload_n 28 3 dX1_play_27 rfl rfl (by decide) rfl ?_
        refine x_bipush 30 dX1_play_28 rfl (by decide) ?_
        refine x_aload_n 31 0 dX1_play_30 rfl rfl (by decide) rfl ?_
        refine x_getR 34 2 (o + 3) dX1_play_31 rfl fX1_18 rfl (lg_s ho) (lg_r2 ho) ?_
        refine x_iload_n 35 3 dX1_play_34 rfl rfl (by decide) rfl ?_
        refine x_iaload 36 dX1_play_35 rfl (lg_a2 ho) (by omega) (fun g35 => ?_)
        refine x_iconst 37 dX1_play_36 rfl ?_
        refine x_iadd 38 dX1_play_37 rfl ?_
        refine x_sp 41 [_, _] (c_imin _ _ (by omega) (by omega)) mJ9_min_7cf53 kX1_71 dX1_play_38 rfl rfl rfl (Nat.le_of_ble_eq_true rfl) (by decide) ?_
        refine x_iastore 42 dX1_play_41 rfl (lg_a2 ho) (by omega) (by omega) ?_
        refine x_aload_n 43 0 dX1_play_42 rfl rfl (by decide) rfl ?_
        refine x_getR 46 1 (o + 2) dX1_play_43 rfl fX1_15 rfl (lg_s ho) (lg_r1 ho) ?_
        refine x_iload_n 47 3 dX1_play_46 rfl rfl (by decide) rfl ?_
        refine x_bipush 49 dX1_play_47 rfl (by decide) ?_
        refine x_aload_n 50 0 dX1_play_49 rfl rfl (by decide) rfl ?_
        refine x_getR 53 1 (o + 2) dX1_play_50 rfl fX1_15 rfl (lg_s ho) (lg_r1 ho) ?_
        refine x_iload_n 54 3 dX1_play_53 rfl rfl (by decide) rfl ?_
        refine x_iaload 55 dX1_play_54 rfl (lg_a1 ho) (by omega) (fun g54 => ?_)
        rw [up2_o _ _ _ (show o + 2 ≠ o + 3 by omega)]
        refine x_aload_n 56 0 dX1_play_55 rfl rfl (by decide) rfl ?_
        refine x_iload_n 57 3 dX1_play_56 rfl rfl (by decide) rfl ?_
        refine x_vp 60 [_] (c_trains (v := v) ho _ (by omega) (by rw [up2_o _ _ _ (show o + 1 ≠ o + 3 by omega)]; exact eb1)) mX1_trainsNow kX1_74 dX1_play_57 rfl (lg_s ho) ⟨by decide, rfl⟩ rfl rfl (Nat.le_of_ble_eq_true rfl) (by decide) ?_
        refine x_iadd 61 dX1_play_60 rfl ?_
        refine x_sp 64 [_, _] (c_imin _ _ (by omega) (by omega)) mJ9_min_7cf53 kX1_71 dX1_play_61 rfl rfl rfl (Nat.le_of_ble_eq_true rfl) (by decide) ?_
        refine x_iastore 65 dX1_play_64 rfl (lg_a1 ho) (by omega) (by omega) ?_
        refine x_aload_n 66 0 dX1_play_65 rfl rfl (by decide) rfl ?_
        refine x_getR 69 1 (o + 2) dX1_play_66 rfl fX1_15 rfl (lg_s ho) (lg_r1 ho) ?_
        refine x_iload 71 4 dX1_play_69 rfl (by decide) rfl ?_
        refine x_iconst 72 dX1_play_71 rfl ?_
        refine x_aload_n 73 0 dX1_play_72 rfl rfl (by decide) rfl ?_
        refine x_getR 76 1 (o + 2) dX1_play_73 rfl fX1_15 rfl (lg_s ho) (lg_r1 ho) ?_
        refine x_iload 78 4 dX1_play_76 rfl (by decide) rfl ?_
        refine x_iaload 79 dX1_play_78 rfl (lg_a1 ho) (by omega) (fun g78 => ?_)
        rw [up2_k _ _ _ (show a ≠ b by omega), up2_o _ _ _ (show o + 2 ≠ o + 3 by omega)]
        refine x_iconst 80 dX1_play_79 rfl ?_
        refine x_isub 81 dX1_play_80 rfl ?_
        refine x_sp 84 [_, _] (c_imax _ _ (by omega) (by omega)) mJ9_max_7cf53 kX1_59 dX1_play_81 rfl rfl rfl (Nat.le_of_ble_eq_true rfl) (by decide) ?_
        refine x_iastore 85 dX1_play_84 rfl (lg_a1 ho) (by omega) (by omega) ?_
        refine x_iload_n 86 3 dX1_play_85 rfl rfl (by decide) rfl ?_
        refine x_iret dX1_play_86 rfl ⟨rfl, Nat.le_refl _⟩ (qi_i ?_)
        refine ⟨hwe.symm, ?_, ?_⟩
        · rw [hge]
          exact Rep_beat hR (by omega) (by omega) (by omega)
        · exact (((Fr.rf o M).up _ _ _ (by omega)).up _ _ _ (by omega)).up _ _ _ (by omega)
      · exfalso; omega
  · have hwe : weaker v a b = -4 := by unfold weaker; rw [if_neg p1, if_neg p2]
    have hge : game v a b = v := by unfold game; rw [if_neg p1, if_neg p2]
    rw [hwe] at hwk
    refine x_aload_n 1 0 dX1_play_0 rfl rfl (by decide) rfl ?_
    refine x_iload_n 2 1 dX1_play_1 rfl rfl (by decide) rfl ?_
    refine x_iload_n 3 2 dX1_play_2 rfl rfl (by decide) rfl ?_
    refine x_vp 6 [_, _] (hwk) mX1_weaker kX1_68 dX1_play_3 rfl (lg_s ho) ⟨by decide, rfl⟩ rfl rfl (Nat.le_of_ble_eq_true rfl) (by decide) ?_
    refine x_istore_n 7 3 _ dX1_play_6 rfl rfl (by decide) rfl rfl ?_
    refine x_iload_n 8 3 dX1_play_7 rfl rfl (by decide) rfl ?_
    refine x_if_lt 85 11 dX1_play_8 (by decide) rfl (by omega) (fun h8 => ?_) (fun h8 => ?_)
    · refine x_iload_n 86 3 dX1_play_85 rfl rfl (by decide) rfl ?_
      refine x_iret dX1_play_86 rfl ⟨rfl, Nat.le_refl _⟩ (qi_i ?_)
      exact ⟨hwe.symm, by rw [hge]; exact hR, Fr.rf o M⟩
    · exfalso; omega
