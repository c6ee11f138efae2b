set_option maxHeartbeats 4000000 in
theorem c_runWeekOf {g : GG} {M : Mem} {o : Nat} {v : LV} (ho : isLg o) (hR : Rep M o v) (hW : WF v) (hw : vw v ≤ 100000) (a b : Int) (ha : 0 ≤ a ∧ a < vn v) (hb : 0 ≤ b ∧ b < vn v) (hne : a ≠ b) : CI g tX1_runWeekOf 4 [rv g o, iv a, iv b] M (fun r M2 => r = weaker v a b ∧ Rep M2 o (pass (game v a b)) ∧ Fr o M M2) := by
  refine Con.of [some (rv g o), some (iv a), some (iv b), none] (by decide +kernel) rfl (Nat.le_of_ble_eq_true rfl) ?_
  have hpl := c_play (g := g) ho hR hW a b ha hb hne
  refine x_aload_n 1 0 dX1_runWeekOf_0 rfl rfl (by decide) rfl ?_
  refine x_iload_n 2 1 dX1_runWeekOf_1 rfl rfl (by decide) rfl ?_
  refine x_iload_n 3 2 dX1_runWeekOf_2 rfl rfl (by decide) rfl ?_
  refine x_vi 6 [_, _] (hpl) mX1_play kX1_81 dX1_runWeekOf_3 rfl (lg_s ho) ⟨by decide, rfl⟩ rfl rfl (Nat.le_of_ble_eq_true rfl) (by decide) (fun r M2 q2 => ?_)
  obtain ⟨rfl, hR2, hF2⟩ := q2
  have hps := c_passWeek (g := g) ho hR2 (game_WF hW ha hb) (by rw [vw_game]; exact hw)
  refine x_istore_n 7 3 _ dX1_runWeekOf_6 rfl rfl (by decide) rfl rfl ?_
  refine x_aload_n 8 0 dX1_runWeekOf_7 rfl rfl (by decide) rfl ?_
  refine x_vv 11 [] (hps) mX1_passWeek kX1_84 dX1_runWeekOf_8 rfl (lg_s ho) ⟨by decide, rfl⟩ rfl rfl (Nat.le_of_ble_eq_true rfl) (by decide) (fun M3 q3 => ?_)
  obtain ⟨hR3, hF3⟩ := q3
  refine x_iload_n 12 3 dX1_runWeekOf_11 rfl rfl (by decide) rfl ?_
  refine x_iret dX1_runWeekOf_12 rfl ⟨rfl, Nat.le_refl _⟩ (qi_i ?_)
  exact ⟨rfl, hR3, hF2.tr hF3⟩

set_option maxHeartbeats 4000000 in
theorem c_runWeek {g : GG} {M : Mem} {o : Nat} {v : LV} (ho : isLg o) (hR : Rep M o v) (hW : WF v) (hw : vw v ≤ 100000) (r : Int) (hr : r = 0 ∨ r = 1) : CI g tX1_runWeek 4 [rv g o, iv r] M (fun q M2 => q = wkL v r ∧ Rep M2 o (wkV v r) ∧ Fr o M M2) := by
  refine Con.of [some (rv g o), some (iv r), none, none] (by decide +kernel) rfl (Nat.le_of_ble_eq_true rfl) ?_
  have h1 := hW.1
  have h2 := hW.2.1
  have h3 := hW.2.2.1
  obtain ⟨e6, e7, e8, -, e5⟩ := id hR
  have hfn := c_fixtureNow (g := g) ho (show 0 ≤ M o 8 by omega)
  by_cases hf : 0 < vf v
  · have hnow := now_in hW hf
    rw [if_pos (show 0 < M o 7 by omega), e8, e7] at hfn
    obtain ⟨ea, eb⟩ := e5 _ hnow.1 hnow.2
    have h5 := hW.2.2.2.2 _ hnow.1 hnow.2
    have hpl := c_play (g := g) ho hR hW _ _ h5.1 h5.2.1 h5.2.2
    refine x_aload_n 1 0 dX1_runWeek_0 rfl rfl (by decide) rfl ?_
    refine x_vp 4 [] (hfn) mX1_fixtureNow kX1_77 dX1_runWeek_1 rfl (lg_s ho) ⟨by decide, rfl⟩ rfl rfl (Nat.le_of_ble_eq_true rfl) (by decide) ?_
    refine x_istore_n 5 2 _ dX1_runWeek_4 rfl rfl (by decide) rfl rfl ?_
    refine x_iload_n 6 2 dX1_runWeek_5 rfl rfl (by decide) rfl ?_
    refine x_if_lt 13 9 dX1_runWeek_6 (by decide) rfl (by omega) (fun h6 => ?_) (fun h6 => ?_)
    · exfalso; omega
    · refine x_iload_n 10 1 dX1_runWeek_9 rfl rfl (by decide) rfl ?_
      refine x_if_eq 18 13 dX1_runWeek_10 (by decide) rfl (by omega) (fun h10 => ?_) (fun h10 => ?_)
      · refine x_aload_n 19 0 dX1_runWeek_18 rfl rfl (by decide) rfl ?_
        refine x_aload_n 20 0 dX1_runWeek_19 rfl rfl (by decide) rfl ?_
        refine x_getR 23 4 (o + 5) dX1_runWeek_20 rfl fX1_24 rfl (lg_s ho) (lg_r4 ho) ?_
        refine x_iload_n 24 2 dX1_runWeek_23 rfl rfl (by decide) rfl ?_
        refine x_iaload 25 dX1_runWeek_24 rfl (lg_a4 ho) (by omega) (fun g24 => ?_)
        rw [ea]
        refine x_aload_n 26 0 dX1_runWeek_25 rfl rfl (by decide) rfl ?_
        refine x_getR 29 5 (o + 6) dX1_runWeek_26 rfl fX1_27 rfl (lg_s ho) (lg_r5 ho) ?_
        refine x_iload_n 30 2 dX1_runWeek_29 rfl rfl (by decide) rfl ?_
        refine x_iaload 31 dX1_runWeek_30 rfl (lg_a5 ho) (by omega) (fun g30 => ?_)
        rw [eb]
        refine x_vi 34 [_, _] (hpl) mX1_play kX1_81 dX1_runWeek_31 rfl (lg_s ho) ⟨by decide, rfl⟩ rfl rfl (Nat.le_of_ble_eq_true rfl) (by decide) (fun r M2 q2 => ?_)
        obtain ⟨rfl, hR2, hF2⟩ := q2
        have hps := c_passWeek (g := g) ho hR2 (game_WF hW h5.1 h5.2.1) (by rw [vw_game]; exact hw)
        refine x_istore_n 35 3 _ dX1_runWeek_34 rfl rfl (by decide) rfl rfl ?_
        refine x_aload_n 36 0 dX1_runWeek_35 rfl rfl (by decide) rfl ?_
        refine x_vv 39 [] (hps) mX1_passWeek kX1_84 dX1_runWeek_36 rfl (lg_s ho) ⟨by decide, rfl⟩ rfl rfl (Nat.le_of_ble_eq_true rfl) (by decide) (fun M3 q3 => ?_)
        obtain ⟨hR3, hF3⟩ := q3
        refine x_iload_n 40 3 dX1_runWeek_39 rfl rfl (by decide) rfl ?_
        refine x_iret dX1_runWeek_40 rfl ⟨rfl, Nat.le_refl _⟩ (qi_i ?_)
        first
          | (refine ⟨?_, ?_, hF2.tr hF3⟩
             · unfold wkL; rw [if_pos ⟨hf, by omega⟩]
             · unfold wkV; rw [if_pos ⟨hf, by omega⟩]; exact hR3)
          | (refine ⟨?_, ?_, hF3⟩
             · unfold wkL; rw [if_neg (by omega)]
             · unfold wkV; rw [if_neg (by omega)]; exact hR3)
      · have hps := c_passWeek (g := g) ho hR hW hw
        refine x_bipush 15 dX1_runWeek_13 rfl (by decide) ?_
        refine x_goto 34 dX1_runWeek_15 (by decide) ?_
        refine x_istore_n 35 3 _ dX1_runWeek_34 rfl rfl (by decide) rfl rfl ?_
        refine x_aload_n 36 0 dX1_runWeek_35 rfl rfl (by decide) rfl ?_
        refine x_vv 39 [] (hps) mX1_passWeek kX1_84 dX1_runWeek_36 rfl (lg_s ho) ⟨by decide, rfl⟩ rfl rfl (Nat.le_of_ble_eq_true rfl) (by decide) (fun M3 q3 => ?_)
        obtain ⟨hR3, hF3⟩ := q3
        refine x_iload_n 40 3 dX1_runWeek_39 rfl rfl (by decide) rfl ?_
        refine x_iret dX1_runWeek_40 rfl ⟨rfl, Nat.le_refl _⟩ (qi_i ?_)
        first
          | (refine ⟨?_, ?_, hF2.tr hF3⟩
             · unfold wkL; rw [if_pos ⟨hf, by omega⟩]
             · unfold wkV; rw [if_pos ⟨hf, by omega⟩]; exact hR3)
          | (refine ⟨?_, ?_, hF3⟩
             · unfold wkL; rw [if_neg (by omega)]
             · unfold wkV; rw [if_neg (by omega)]; exact hR3)
  · rw [if_neg (show ¬ 0 < M o 7 by omega)] at hfn
    have hps := c_passWeek (g := g) ho hR hW hw
    refine x_aload_n 1 0 dX1_runWeek_0 rfl rfl (by decide) rfl ?_
    refine x_vp 4 [] (hfn) mX1_fixtureNow kX1_77 dX1_runWeek_1 rfl (lg_s ho) ⟨by decide, rfl⟩ rfl rfl (Nat.le_of_ble_eq_true rfl) (by decide) ?_
    refine x_istore_n 5 2 _ dX1_runWeek_4 rfl rfl (by decide) rfl rfl ?_
    refine x_iload_n 6 2 dX1_runWeek_5 rfl rfl (by decide) rfl ?_
    refine x_if_lt 13 9 dX1_runWeek_6 (by decide) rfl (by omega) (fun h6 => ?_) (fun h6 => ?_)
    · refine x_bipush 15 dX1_runWeek_13 rfl (by decide) ?_
      refine x_goto 34 dX1_runWeek_15 (by decide) ?_
      refine x_istore_n 35 3 _ dX1_runWeek_34 rfl rfl (by decide) rfl rfl ?_
      refine x_aload_n 36 0 dX1_runWeek_35 rfl rfl (by decide) rfl ?_
      refine x_vv 39 [] (hps) mX1_passWeek kX1_84 dX1_runWeek_36 rfl (lg_s ho) ⟨by decide, rfl⟩ rfl rfl (Nat.le_of_ble_eq_true rfl) (by decide) (fun M3 q3 => ?_)
      obtain ⟨hR3, hF3⟩ := q3
      refine x_iload_n 40 3 dX1_runWeek_39 rfl rfl (by decide) rfl ?_
      refine x_iret dX1_runWeek_40 rfl ⟨rfl, Nat.le_refl _⟩ (qi_i ?_)
      refine ⟨?_, ?_, hF3⟩
      · unfold wkL; rw [if_neg (by omega)]
      · unfold wkV; rw [if_neg (by omega)]; exact hR3
    · exfalso; omega

set_option maxHeartbeats 4000000 in
theorem c_runWeeks {g : GG} {M : Mem} {o : Nat} {v : LV} (ho : isLg o) (hR : Rep M o v) (hW : WF v) (n : Nat) (hn : n ≤ 100) (hw : vw v ≤ 10000) : CI g tX1_runWeeks 5 [rv g o, iv n] M (fun r M2 => r = goL v n ∧ Rep M2 o (goV v n) ∧ Fr o M M2) := by
  refine Con.of [some (rv g o), some (iv n), none, none] (by decide +kernel) rfl (Nat.le_of_ble_eq_true rfl) ?_
  have loop : ∀ (m : Nat) (k : Nat) (M2 : Mem), n - k < m → k ≤ n → Rep M2 o (goV v k) → Fr o M M2 → X g tX1_runWeeks (kk0 5) 4 [some (rv g o), some (iv n), some (iv (goL v k)), some (iv k)] [] (S0, R0, M2) (QI (fun r M3 => r = goL v n ∧ Rep M3 o (goV v n) ∧ Fr o M M3)) := by
    intro m
    induction m with
    | zero => intro k M2 k1 k2; omega
    | succ m ih =>
      intro k M2 k1 k2 hR2 hF
      have hb := goL_bd v k
      have hgw := goV_w v k
      refine x_iload_n 5 3 dX1_runWeeks_4 rfl rfl (by decide) rfl ?_
      refine x_iload_n 6 1 dX1_runWeeks_5 rfl rfl (by decide) rfl ?_
      refine x_icmp_ge 26 9 dX1_runWeeks_6 (by decide) rfl (by omega) (fun h6 => ?_) (fun h6 => ?_)
      · refine x_iload_n 27 2 dX1_runWeeks_26 rfl rfl (by decide) rfl ?_
        refine x_iret dX1_runWeeks_27 rfl ⟨rfl, Nat.le_refl _⟩ (qi_i ?_)
        have hk : k = n := by omega
        subst hk
        exact ⟨rfl, hR2, hF⟩
      · refine x_aload_n 10 0 dX1_runWeeks_9 rfl rfl (by decide) rfl ?_
        refine x_iconst 11 dX1_runWeeks_10 rfl ?_
        refine x_vi 14 [_] (c_runWeek ho hR2 (goV_WF hW k) (by omega) 0 (Or.inl rfl)) mX1_runWeek kX1_90 dX1_runWeeks_11 rfl (lg_s ho) ⟨by decide, rfl⟩ rfl rfl (Nat.le_of_ble_eq_true rfl) (by decide) (fun r M3 q3 => ?_)
        obtain ⟨rfl, hR3, hF3⟩ := q3
        have hin := wkL_in (goV_WF hW k) 0
        have hn5 := (goV_WF hW k).1
        refine x_if_lt 20 17 dX1_runWeeks_14 (by decide) rfl (by omega) (fun h14 => ?_) (fun h14 => ?_)
        · refine x_iinc 23 _ dX1_runWeeks_20 rfl (by decide) rfl rfl rfl ?_
          refine x_goto 4 dX1_runWeeks_23 (by decide) ?_
          have hg : goL v (k + 1) = goL v k + (if 0 ≤ wkL (goV v k) 0 then 1 else 0) := rfl
          first | rw [if_neg (by omega)] at hg | rw [if_pos (by omega)] at hg
          have ih2 := ih (k + 1) _ (by omega) (by omega) hR3 (hF.tr hF3)
          rw [hg] at ih2
          first | exact ih2 | (rw [Int.add_zero] at ih2; exact ih2)
        · refine x_iinc 20 _ dX1_runWeeks_17 rfl (by decide) rfl rfl rfl ?_
          refine x_iinc 23 _ dX1_runWeeks_20 rfl (by decide) rfl rfl rfl ?_
          refine x_goto 4 dX1_runWeeks_23 (by decide) ?_
          have hg : goL v (k + 1) = goL v k + (if 0 ≤ wkL (goV v k) 0 then 1 else 0) := rfl
          first | rw [if_neg (by omega)] at hg | rw [if_pos (by omega)] at hg
          have ih2 := ih (k + 1) _ (by omega) (by omega) hR3 (hF.tr hF3)
          rw [hg] at ih2
          first | exact ih2 | (rw [Int.add_zero] at ih2; exact ih2)
  refine x_iconst 1 dX1_runWeeks_0 rfl ?_
  refine x_istore_n 2 2 _ dX1_runWeeks_1 rfl rfl (by decide) rfl rfl ?_
  refine x_iconst 3 dX1_runWeeks_2 rfl ?_
  refine x_istore_n 4 3 _ dX1_runWeeks_3 rfl rfl (by decide) rfl rfl ?_
  exact loop (n + 1) 0 M (by omega) (by omega) hR (Fr.rf o M)
