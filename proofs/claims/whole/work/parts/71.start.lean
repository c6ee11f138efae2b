def tmS : Nat → Term
  | 0 => .string RX5 104
  | 1 => .string RX5 110
  | 2 => .string RX5 112
  | 3 => .string RX5 114
  | _ => .string RX5 116
theorem arr_at {s : State} {args : Array Value} {ty : FieldType} (h : (Cond.arrayClass ty).before args s = true) (hp : isRT ty = false) : ∃ cA : ClassId, ArrOfT s cA ty ∧ va_RA s cA ty := by
  obtain ⟨cA, kA, comp, h1, h2, h3⟩ := Cond.arrayClass_spec h
  refine ⟨cA, fun n z => ⟨fun k h => (by cases h), kA, h2, comp, h3⟩, ?_⟩
  cases ty <;> first | (cases hp; done) | exact h1
theorem arr_of {s : State} {args : Array Value} {C : String} (h : (Cond.arrayOver (.object C)).before args s = true) : ∃ cA : ClassId, ArrOfT s cA (.object C) ∧ va_RA s cA (.object C) := by
  obtain ⟨comp, cA, kA, h1, h2, h3, h4, h5⟩ := Cond.arrayOver_spec h
  exact ⟨cA, fun n z => ⟨fun k h => (by cases h), kA, h3, comp, h4⟩, kA, comp, h3, h4, h1, h5⟩
set_option maxHeartbeats 8000000 in
set_option maxRecDepth 100000 in
theorem start_g (l : Launch) {p : Program} {s : State} {m : MethodId} {meth : Method} {c : Code} {b L : Nat} {xs : Nat → Int32} (hL : L ≤ 2560) (C0 : lw_At p s m meth c b L xs) : ∃ g : GG, gL g = l ∧ LC g p s m meth c b L xs := by
  obtain ⟨hx, hb, hr, hml, hown, hts, hX, hbl, hlk, hgv⟩ := id C0
  have hs := flat_of_before _ hgv
  have hA : ∀ a : Nat, a < s.heap.size → ¬ (fun q : Nat => s.heap.size ≤ q) a := fun a h => Nat.not_le.mpr h
  obtain ⟨adK, adV, hvs, hev⟩ := vk_Sof (args := #[Value.ref b]) (s := s) (N := 5) (tm := tmS) (len := xlen) (byt := xbyt) (A := fun q : Nat => s.heap.size ≤ q) (by decide +kernel)
    (fun i hi => by
    match i, hi with
    | 0, _ => exact hs _ (by decide +kernel)
    | 1, _ => exact hs _ (by decide +kernel)
    | 2, _ => exact hs _ (by decide +kernel)
    | 3, _ => exact hs _ (by decide +kernel)
    | 4, _ => exact hs _ (by decide +kernel)
    | k + 5, h => exact absurd h (by omega))
    (fun i hi => by
    match i, hi with
    | 0, _ => exact hs _ (by decide +kernel)
    | 1, _ => exact hs _ (by decide +kernel)
    | 2, _ => exact hs _ (by decide +kernel)
    | 3, _ => exact hs _ (by decide +kernel)
    | 4, _ => exact hs _ (by decide +kernel)
    | k + 5, h => exact absurd h (by omega))
    (fun i hi => by
    match i, hi with
    | 0, _ => exact hs _ (by decide +kernel)
    | 1, _ => exact hs _ (by decide +kernel)
    | 2, _ => exact hs _ (by decide +kernel)
    | 3, _ => exact hs _ (by decide +kernel)
    | 4, _ => exact hs _ (by decide +kernel)
    | k + 5, h => exact absurd h (by omega))
    (fun i hi => by
    match i, hi with
    | 0, _ => exact hs _ (by decide +kernel)
    | 1, _ => exact hs _ (by decide +kernel)
    | 2, _ => exact hs _ (by decide +kernel)
    | 3, _ => exact hs _ (by decide +kernel)
    | 4, _ => exact hs _ (by decide +kernel)
    | k + 5, h => exact absurd h (by omega))
    (fun i hi => by
    match i, hi with
    | 0, _ => 
      intro j hj
      have hj : j < 5 := hj
      match j, hj with
      | 0, _ => exact hs _ (by decide +kernel)
      | 1, _ => exact hs _ (by decide +kernel)
      | 2, _ => exact hs _ (by decide +kernel)
      | 3, _ => exact hs _ (by decide +kernel)
      | 4, _ => exact hs _ (by decide +kernel)
      | k + 5, h => exact absurd h (by omega)
    | 1, _ => 
      intro j hj
      have hj : j < 5 := hj
      match j, hj with
      | 0, _ => exact hs _ (by decide +kernel)
      | 1, _ => exact hs _ (by decide +kernel)
      | 2, _ => exact hs _ (by decide +kernel)
      | 3, _ => exact hs _ (by decide +kernel)
      | 4, _ => exact hs _ (by decide +kernel)
      | k + 5, h => exact absurd h (by omega)
    | 2, _ => 
      intro j hj
      have hj : j < 4 := hj
      match j, hj with
      | 0, _ => exact hs _ (by decide +kernel)
      | 1, _ => exact hs _ (by decide +kernel)
      | 2, _ => exact hs _ (by decide +kernel)
      | 3, _ => exact hs _ (by decide +kernel)
      | k + 4, h => exact absurd h (by omega)
    | 3, _ => 
      intro j hj
      have hj : j < 8 := hj
      match j, hj with
      | 0, _ => exact hs _ (by decide +kernel)
      | 1, _ => exact hs _ (by decide +kernel)
      | 2, _ => exact hs _ (by decide +kernel)
      | 3, _ => exact hs _ (by decide +kernel)
      | 4, _ => exact hs _ (by decide +kernel)
      | 5, _ => exact hs _ (by decide +kernel)
      | 6, _ => exact hs _ (by decide +kernel)
      | 7, _ => exact hs _ (by decide +kernel)
      | k + 8, h => exact absurd h (by omega)
    | 4, _ => 
      intro j hj
      have hj : j < 4 := hj
      match j, hj with
      | 0, _ => exact hs _ (by decide +kernel)
      | 1, _ => exact hs _ (by decide +kernel)
      | 2, _ => exact hs _ (by decide +kernel)
      | 3, _ => exact hs _ (by decide +kernel)
      | k + 4, h => exact absurd h (by omega)
    | k + 5, h => exact absurd h (by omega))
    (fun i j hi hj hij => by
    match i, j, hi, hj, hij with
    | 0, 0, _, _, h => exact absurd rfl h
    | 0, 1, _, _, _ => exact Or.inl (hs _ (by decide +kernel))
    | 0, 2, _, _, _ => exact Or.inl (hs _ (by decide +kernel))
    | 0, 3, _, _, _ => exact Or.inl (hs _ (by decide +kernel))
    | 0, 4, _, _, _ => exact Or.inl (hs _ (by decide +kernel))
    | 1, 0, _, _, _ => exact Or.inr (hs _ (by decide +kernel))
    | 1, 1, _, _, h => exact absurd rfl h
    | 1, 2, _, _, _ => exact Or.inl (hs _ (by decide +kernel))
    | 1, 3, _, _, _ => exact Or.inl (hs _ (by decide +kernel))
    | 1, 4, _, _, _ => exact Or.inl (hs _ (by decide +kernel))
    | 2, 0, _, _, _ => exact Or.inr (hs _ (by decide +kernel))
    | 2, 1, _, _, _ => exact Or.inr (hs _ (by decide +kernel))
    | 2, 2, _, _, h => exact absurd rfl h
    | 2, 3, _, _, _ => exact Or.inl (hs _ (by decide +kernel))
    | 2, 4, _, _, _ => exact Or.inl (hs _ (by decide +kernel))
    | 3, 0, _, _, _ => exact Or.inr (hs _ (by decide +kernel))
    | 3, 1, _, _, _ => exact Or.inr (hs _ (by decide +kernel))
    | 3, 2, _, _, _ => exact Or.inr (hs _ (by decide +kernel))
    | 3, 3, _, _, h => exact absurd rfl h
    | 3, 4, _, _, _ => exact Or.inl (hs _ (by decide +kernel))
    | 4, 0, _, _, _ => exact Or.inr (hs _ (by decide +kernel))
    | 4, 1, _, _, _ => exact Or.inr (hs _ (by decide +kernel))
    | 4, 2, _, _, _ => exact Or.inr (hs _ (by decide +kernel))
    | 4, 3, _, _, _ => exact Or.inr (hs _ (by decide +kernel))
    | 4, 4, _, _, h => exact absurd rfl h
    | k + 5, _, h, _, _ => exact absurd h (by omega)
    | _, k + 5, _, h, _ => exact absurd h (by omega)) hA
  obtain ⟨c0, iS0, hKn0⟩ := u_known (C := xC 0) (T := xT 0) (N := xN 0) (n := xN 0) hts (xin_all 0 (by decide)) (hts _ (List.mem_append_right _ (List.mem_of_getElem? (i := 136) (by decide +kernel))))
  obtain ⟨c1, iS1, hKn1⟩ := u_known (C := xC 1) (T := xT 1) (N := xN 1) (n := xN 1) hts (xin_all 1 (by decide)) (hts _ (List.mem_append_right _ (List.mem_of_getElem? (i := 71) (by decide +kernel))))
  obtain ⟨c2, iS2, hKn2⟩ := u_known (C := xC 2) (T := xT 2) (N := xN 2) (n := xN 2) hts (xin_all 2 (by decide)) (hts _ (List.mem_append_right _ (List.mem_of_getElem? (i := 150) (by decide +kernel))))
  obtain ⟨c3, iS3, hKn3⟩ := u_known (C := xC 3) (T := xT 3) (N := xN 3) (n := xN 3) hts (xin_all 3 (by decide)) (hts _ (List.mem_append_right _ (List.mem_of_getElem? (i := 118) (by decide +kernel))))
  obtain ⟨c4, iS4, hKn4⟩ := u_known (C := xC 4) (T := xT 4) (N := xN 4) (n := xN 4) hts (xin_all 4 (by decide)) (hts _ (List.mem_append_right _ (List.mem_of_getElem? (i := 30) (by decide +kernel))))
  obtain ⟨c5, iS5, hKn5⟩ := u_known (C := xC 5) (T := xT 5) (N := xN 5) (n := xN 5) hts (xin_all 5 (by decide)) (hts _ (List.mem_append_right _ (List.mem_of_getElem? (i := 24) (by decide +kernel))))
  obtain ⟨c6, iS6, hKn6⟩ := u_known (C := xC 6) (T := xT 6) (N := xN 6) (n := xN 6) hts (xin_all 6 (by decide)) (hts _ (List.mem_append_right _ (List.mem_of_getElem? (i := 16) (by decide +kernel))))
  obtain ⟨c7, iS7, hKn7⟩ := u_known (C := xC 7) (T := xT 7) (N := xN 7) (n := xN 7) hts (xin_all 7 (by decide)) (hts _ (List.mem_append_right _ (List.mem_of_getElem? (i := 714) (by decide +kernel))))
  obtain ⟨a0, hAr0⟩ := arr_at (ty := xTy 0) (hts _ (List.mem_append_right _ (List.mem_of_getElem? (i := 113) (by decide +kernel)))) rfl
  obtain ⟨a1, hAr1⟩ := arr_at (ty := xTy 1) (hts _ (List.mem_append_right _ (List.mem_of_getElem? (i := 44) (by decide +kernel)))) rfl
  obtain ⟨a2, hAr2⟩ := arr_at (ty := xTy 2) (hts _ (List.mem_append_right _ (List.mem_of_getElem? (i := 134) (by decide +kernel)))) rfl
  obtain ⟨a3, hAr3⟩ := arr_of (C := RX1) (hts _ (List.mem_append_right _ (List.mem_of_getElem? (i := 114) (by decide +kernel))))
  obtain ⟨a4, hAr4⟩ := arr_of (C := RX2) (hts _ (List.mem_append_right _ (List.mem_of_getElem? (i := 116) (by decide +kernel))))
  refine ⟨(l, (fun k => match k with | 0 => c0 | 1 => c1 | 2 => c2 | 3 => c3 | 4 => c4 | 5 => c5 | 6 => c6 | _ => c7, fun k => match k with | 0 => iS0 | 1 => iS1 | 2 => iS2 | 3 => iS3 | 4 => iS4 | 5 => iS5 | 6 => iS6 | _ => iS7), fun k => match k with | 0 => a0 | 1 => a1 | 2 => a2 | 3 => a3 | _ => a4, s.heap.size, adK, adV), rfl, C0, hL, ⟨fun k q hq => ?_, fun k q hq => ?_⟩, rfl, ⟨hvs, ?_, ?_⟩, ⟨⟨?_, ?_, ?_, ?_, ?_⟩, ?_, ?_, ?_⟩, fun w hw => hts w (List.mem_filter.mp hw).1⟩
  · match k, hq with
    | 0, hq => cases hq; exact hKn0
    | 1, hq => cases hq; exact hKn1
    | 2, hq => cases hq; exact hKn2
    | 3, hq => cases hq; exact hKn3
    | 4, hq => cases hq; exact hKn4
    | 5, hq => cases hq; exact hKn5
    | 6, hq => cases hq; exact hKn6
    | 7, hq => cases hq; exact hKn7
    | k + 8, hq => simp [xcl] at hq
  · match k, hq with
    | 0, hq => cases hq; exact hAr0
    | 1, hq => cases hq; exact hAr1
    | 2, hq => cases hq; exact hAr2
    | 3, hq => cases hq; exact hAr3
    | 4, hq => cases hq; exact hAr4
    | k + 5, hq => simp [xtys] at hq
  · exact va_Zof (hts _ (List.mem_append_right _ (List.mem_of_getElem? (i := 290) (by decide +kernel)))) (hts _ (List.mem_append_right _ (List.mem_of_getElem? (i := 9) (by decide +kernel)))) (va_eqi (hs (.eq (.static "java/lang/String" "COMPACT_STRINGS" "Z") (.int 1)) (by decide +kernel))) hA
  · exact va_Zqof (hts _ (List.mem_append_right _ (List.mem_of_getElem? (i := 306) (by decide +kernel)))) (hts _ (List.mem_append_right _ (List.mem_of_getElem? (i := 11) (by decide +kernel)))) (hs (.isRef (.static "jdk/internal/util/Preconditions" "SIOOBE_FORMATTER" "Ljava/util/function/BiFunction;")) (by decide +kernel)) hA
  · exact vk_R.of (hts _ (List.mem_append_right _ (List.mem_of_getElem? (i := 276) (by decide +kernel)))) (hev 0 (by decide))
  · exact vk_R.of (hts _ (List.mem_append_right _ (List.mem_of_getElem? (i := 329) (by decide +kernel)))) (hev 1 (by decide))
  · exact vk_R.of (hts _ (List.mem_append_right _ (List.mem_of_getElem? (i := 330) (by decide +kernel)))) (hev 2 (by decide))
  · exact vk_R.of (hts _ (List.mem_append_right _ (List.mem_of_getElem? (i := 331) (by decide +kernel)))) (hev 3 (by decide))
  · exact vk_R.of (hts _ (List.mem_append_right _ (List.mem_of_getElem? (i := 332) (by decide +kernel)))) (hev 4 (by decide))
  · intro q hq
    simp only [xNs, List.mem_cons, List.not_mem_nil, or_false] at hq
    rcases hq with rfl | rfl | rfl | rfl | rfl | rfl
    · exact va_Nw.of rfl (hts _ (List.mem_append_right _ (List.mem_of_getElem? (i := 25) (by decide +kernel))))
    · exact va_Nw.of rfl (hts _ (List.mem_append_right _ (List.mem_of_getElem? (i := 31) (by decide +kernel))))
    · exact va_Nw.of rfl (hts _ (List.mem_append_right _ (List.mem_of_getElem? (i := 72) (by decide +kernel))))
    · exact va_Nw.of rfl (hts _ (List.mem_append_right _ (List.mem_of_getElem? (i := 119) (by decide +kernel))))
    · exact va_Nw.of rfl (hts _ (List.mem_append_right _ (List.mem_of_getElem? (i := 137) (by decide +kernel))))
    · exact va_Nw.of rfl (hts _ (List.mem_append_right _ (List.mem_of_getElem? (i := 151) (by decide +kernel))))
  · exact va_AO.of (hts _ (List.mem_append_right _ (List.mem_of_getElem? (i := 114) (by decide +kernel))))
  · exact va_AO.of (hts _ (List.mem_append_right _ (List.mem_of_getElem? (i := 116) (by decide +kernel))))
