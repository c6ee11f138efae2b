/-! ===== rows for what constructors do: new objects, new arrays, references put ===== -/
def isRT : FieldType → Bool
  | .object _ => true
  | .array _ => true
  | _ => false
theorem xRT : ∀ ci, ci < 8 → ∀ k, k < xN ci → xRef ci k = isRT (xty ci k) := by decide +kernel
theorem isRT_def {t : FieldType} (h : isRT t = true) : defaultValue t = .null := by
  cases t <;> first | rfl | (exact absurd h (by decide))
theorem isRT_nar {t : FieldType} (h : isRT t = true) (a : Nat) : narrow t (.ref a) = .ref a := by
  cases t <;> first | rfl | (exact absurd h (by decide))
theorem isRT_fit {t : FieldType} (h : isRT t = true) (a : Nat) : fits t (.ref a) = true := by
  cases t <;> first | rfl | (exact absurd h (by decide))
/-- nothing is told of what isn't made yet -/
def Zr (sh : List Shp) (rf : Nat → Nat → Option Nat) (M : Mem) : Prop := ∀ i, sh.length ≤ i → (∀ k, rf i k = none) ∧ (∀ k, M i k = 0)
theorem Zr.push {sh : List Shp} {rf : Nat → Nat → Option Nat} {M : Mem} (h : Zr sh rf M) (a : Shp) : Zr (sh ++ [a]) rf M := fun i hi => h i (by simp at hi; omega)
theorem Zr.upr {sh : List Shp} {rf : Nat → Nat → Option Nat} {M : Mem} (h : Zr sh rf M) {i : Nat} (hi : i < sh.length) (k : Nat) (v : Option Nat) : Zr sh (upr rf i k v) M := fun j hj => ⟨fun q => by rw [upr_o rf k v (show j ≠ i by omega)]; exact (h j hj).1 q, (h j hj).2⟩
theorem Zr.up2 {sh : List Shp} {rf : Nat → Nat → Option Nat} {M : Mem} (h : Zr sh rf M) {i : Nat} (hi : i < sh.length) (k v : Int) : Zr sh rf (up2 M i k v) := fun j hj => ⟨(h j hj).1, fun q => by rw [up2_o M k v (show j ≠ i by omega)]; exact (h j hj).2 q⟩
theorem gp {sh : List Shp} {i : Nat} {s : Shp} (h : sh[i]? = some s) (a : Shp) : (sh ++ [a])[i]? = some s := by
  rw [List.getElem?_append_left (List.getElem?_eq_some_iff.mp h).1]; exact h
theorem gl {sh : List Shp} {n : Nat} (h : sh.length = n) (a : Shp) : (sh ++ [a])[n]? = some a := by
  subst h; simp
theorem lp {sh : List Shp} {n : Nat} (h : sh.length = n) (a : Shp) : (sh ++ [a]).length = n + 1 := by simp [h]
theorem glt {sh : List Shp} {i : Nat} {s : Shp} (h : sh[i]? = some s) : i < sh.length := (List.getElem?_eq_some_iff.mp h).1
theorem xq {g : GG} {hp : Hp} {q : Nat} {E : va_E} {H1 : Heap} (hP : va_P (gD g) xcl (xW g hp ++ [(q, E)]) H1) (hD : va_D (xA g) (xW g hp ++ [(q, E)])) (hz : H1.size ≤ gB g + hp.1.length + 1) : q = gB g + hp.1.length := by
  have hn : (xW g hp ++ [(q, E)])[hp.1.length]? = some (q, E) := by
    rw [List.getElem?_append_right (by rw [xW_len]; exact Nat.le_refl _), xW_len, Nat.sub_self]; rfl
  have h1 : gB g ≤ q := hD.2 _ _ hn
  have h2 : q < H1.size := (hP _ _ hn).lt
  by_cases e : q < gB g + hp.1.length
  · have hl : q - gB g < hp.1.length := by omega
    have ho : (xW g hp ++ [(q, E)])[q - gB g]? = some (gB g + (q - gB g), xE g hp (q - gB g) (hp.1.getD (q - gB g) (.inl 0))) := by
      rw [List.getElem?_append_left (by rw [xW_len]; exact hl), xW_get, if_pos hl]
    have := hD.1 _ _ _ _ ho hn (by show gB g + (q - gB g) = q; omega)
    omega
  · omega
theorem xI_push {g : GG} {sh : List Shp} {rf : Nat → Nat → Option Nat} {M : Mem} {s : Shp} {q : Nat} {E : va_E} {H1 : Heap} (hP : va_P (gD g) xcl (xW g (sh, rf, M) ++ [(q, E)]) H1) (hq : q = gB g + sh.length) (hE : E = xE g (sh ++ [s], rf, M) sh.length s) (hr : ∀ i k, -2147483648 ≤ M i k ∧ M i k ≤ 2147483647) : xI g (sh ++ [s], rf, M) H1 := by
  refine ⟨?_, hr⟩
  rw [← xW_push (g := g) (sh := sh) (rf := rf) (rf' := rf) (M := M) (M' := M) (s := s) (fun _ _ => rfl) (fun _ _ => rfl), ← hE, ← hq]
  exact hP
section CROWS
variable {g : GG} {T : XT} {K : XK} {pc : Nat} {L : List (Option Value)} {st : List Value} {Q : Option Value → Hp → Prop} {x : Int} {sh : List Shp} {rf : Nat → Nat → Option Nat} {M : Mem}
theorem x_new (n : Nat) {idx ci j : Nat} (hj : sh.length = j) (h8 : ci < 8) (hcl : Cond.classLink T.1.cls idx (xC ci) ∈ xG) (hin : Cond.instantiable (xC ci) (xN ci) ∈ xG) (hini : Cond.initialized (xC ci) ∈ xG) (hz : Zr sh rf M) (hroom : K.2.2.1 + 1 ≤ K.2.1.1 ∧ K.2.2.2 + xN ci ≤ K.2.1.2) (hd : decode T.2.1 pc = .ok (.new idx, 3)) (hn : pc + 3 = n)
    (k : X g T (K.1, K.2.1, (K.2.2.1 + 1, K.2.2.2 + xN ci)) n L (rv g j :: st) (sh ++ [.inl ci], rf, M) Q) : X g T K pc L st (sh, rf, M) Q := by
  subst hn; subst hj
  intro p e s m args below meth c H ls locs C hI hS hl
  obtain ⟨hx, hb, hml, hown, hts, hr, hlk, hK, hB, hnm, hZ, hR⟩ := id C
  have hfs : ∀ q, q < xN ci → defaultValue (xty ci q) = vp_V ((List.range (xN ci)).map (xF g (sh ++ [.inl ci], rf, M) sh.length ci)) q := fun q hq => by
    have hv : vp_V ((List.range (xN ci)).map (xF g (sh ++ [.inl ci], rf, M) sh.length ci)) q = xF g (sh ++ [.inl ci], rf, M) sh.length ci q := by
      unfold vp_V; simp [List.getD, hq]
    rw [hv]
    unfold xF
    by_cases hrf : xRef ci q = true
    · rw [if_pos hrf]
      show _ = va_rf ((rf sh.length q).map _)
      rw [(hz sh.length (Nat.le_refl _)).1 q]
      rw [xRT ci h8 q hq] at hrf
      exact isRT_def hrf
    · rw [if_neg hrf]
      show _ = iv (M sh.length q)
      rw [(hz sh.length (Nat.le_refl _)).2 q, xRef_int (Bool.eq_false_iff.mpr hrf)]; rfl
  refine va_new (D := gD g) (ci := ci) (fs := (List.range (xN ci)).map (xF g (sh ++ [.inl ci], rf, M) sh.length ci)) (C := xC ci) (T := xT ci) (N := xN ci) hx hb hts (xin h8) (xty ci) (xty_ok h8) hown (hts _ hcl) (hts _ hin) (hts _ hini) hK hI.1.1 (xDD g _) hS (fun q h => Nat.le_trans hB h) (xcl_at h8) hfs hroom.1 hroom.2 hd (fun q H1 hP1 hD1 hS1 => ?_)
  refine W.sized (fun hup => ?_)
  have h2 := hI.2
  have hq := xq hP1 hD1 (by show H1.size ≤ gB g + sh.length + 1; have h3 : s.heap.size + K.2.2.1 = gB g + sh.length := h2; omega)
  have hq : q = gB g + sh.length := hq
  subst hq
  refine k p e s m args below meth c H1 ls locs C ⟨xI_push hP1 rfl rfl hI.1.2, ?_⟩ hS1 hl
  show s.heap.size + (K.2.2.1 + 1) = gB g + (sh ++ [Sum.inl ci]).length
  have h3 : s.heap.size + K.2.2.1 = gB g + sh.length := h2
  simp; omega
theorem x_newP (n : Nat) {j t N : Nat} {atype : ArrayType} {ty : FieldType} (hj : sh.length = j) (ht3 : t < 3) (hty : newarray.typeOf atype = ty) (htt : (xtys g)[t]? = some (gA g t, ty)) (hdv : defaultValue ty = .int 0) (hra : ∀ (U : State) (a b : ClassId), va_RA U a ty → va_RA U b ty → a = b) (hby : N * componentBytes ty ≤ 536870912) (harr : Cond.arrayClass ty ∈ xG) (hx : x = (N : Int)) (hN : N < 2147483647) (hz : Zr sh rf M) (hroom : K.2.2.1 + 1 ≤ K.2.1.1 ∧ K.2.2.2 + N ≤ K.2.1.2) (hd : decode T.2.1 pc = .ok (.newarray atype, 2)) (hn : pc + 2 = n)
    (k : X g T (K.1, K.2.1, (K.2.2.1 + 1, K.2.2.2 + N)) n L (rv g j :: st) (sh ++ [.inr (t, N)], rf, M) Q) : X g T K pc L (iv x :: st) (sh, rf, M) Q := by
  subst hn; subst hj; subst hx; subst hty
  intro p e s m args below meth c H ls locs C hI hS hl
  obtain ⟨hx, hb, hml, hown, hts, hr, hlk, hK, hB, hnm, hZ, hR⟩ := id C
  refine va_newa (D := gD g) (cl := xcl) (tys := xtys g) (a0 := (N, .inl (fun j => Int32.ofInt (M sh.length (j : Int))))) hx hb (hts _ harr) rfl hK hI.1.1 (xDD g _) hS (fun q h => Nat.le_trans hB h) (fun cA => ?_) (n := Int32.ofInt (N : Int)) (N' := N) ?_ ?_ hby hroom.1 hroom.2 hd (fun q cA H1 hK1 hP1 hD1 hS1 => ?_)
  · rw [vp_cell_i, hdv]
    congr 1
    funext q
    rw [(hz sh.length (Nat.le_refl _)).2]; rfl
  · intro h
    have := (iLt (x := (N : Int)) (y := 0) (by omega)).mp h
    omega
  · rw [iClamp (n := 2147483647) (by omega)]; rfl
  refine W.sized (fun hup => ?_)
  have h3 : s.heap.size + K.2.2.1 = gB g + sh.length := hI.2
  have hq : q = gB g + sh.length := xq hP1 hD1 (by show H1.size ≤ gB g + sh.length + 1; omega)
  subst hq
  have hcA : cA = gA g t := by
    have h5 : (xtys g ++ [(cA, newarray.typeOf atype)])[5]? = some (cA, newarray.typeOf atype) := rfl
    exact hra s _ _ (hK1.2 5 _ h5).2 (hK.2 t _ htt).2
  subst hcA
  refine k p e s m args below meth c H1 ls locs C ⟨xI_push hP1 rfl ?_ hI.1.2, ?_⟩ hS1 hl
  · simp only [xE, if_pos ht3]
  · show s.heap.size + (K.2.2.1 + 1) = gB g + (sh ++ [Sum.inr (t, N)]).length
    simp; omega
theorem raP {ty : FieldType} (h : isRT ty = false) (U : State) (a b : ClassId) (h1 : va_RA U a ty) (h2 : va_RA U b ty) : a = b := by
  cases ty <;> first | (cases h; done) | (exact Option.some.inj (Eq.trans (Eq.symm h1) h2))
theorem raO {C : String} {U : State} {a b : ClassId} (h1 : va_RA U a (.object C)) (h2 : va_RA U b (.object C)) : a = b := by
  obtain ⟨_, _, _, _, _, e1⟩ := h1
  obtain ⟨_, _, _, _, _, e2⟩ := h2
  exact Option.some.inj (e1.symm.trans e2)
theorem x_newI (n : Nat) {j N : Nat} (hj : sh.length = j) (hx : x = (N : Int)) (hN : N ≤ 1000) (hz : Zr sh rf M) (hroom : K.2.2.1 + 1 ≤ K.2.1.1 ∧ K.2.2.2 + N ≤ K.2.1.2) (hd : decode T.2.1 pc = .ok (.newarray .int, 2)) (hn : pc + 2 = n)
    (k : X g T (K.1, K.2.1, (K.2.2.1 + 1, K.2.2.2 + N)) n L (rv g j :: st) (sh ++ [.inr (0, N)], rf, M) Q) : X g T K pc L (iv x :: st) (sh, rf, M) Q :=
  x_newP n hj (by omega) rfl rfl rfl (raP rfl) (by show N * 4 ≤ 536870912; omega) (xm 113 (by decide +kernel) (by decide +kernel)) hx (by omega) hz hroom hd hn k
theorem x_newB (n : Nat) {j N : Nat} (hj : sh.length = j) (hx : x = (N : Int)) (hN : N ≤ 1000) (hz : Zr sh rf M) (hroom : K.2.2.1 + 1 ≤ K.2.1.1 ∧ K.2.2.2 + N ≤ K.2.1.2) (hd : decode T.2.1 pc = .ok (.newarray .byte, 2)) (hn : pc + 2 = n)
    (k : X g T (K.1, K.2.1, (K.2.2.1 + 1, K.2.2.2 + N)) n L (rv g j :: st) (sh ++ [.inr (1, N)], rf, M) Q) : X g T K pc L (iv x :: st) (sh, rf, M) Q :=
  x_newP n hj (by omega) rfl rfl rfl (raP rfl) (by show N * 1 ≤ 536870912; omega) (xm 44 (by decide +kernel) (by decide +kernel)) hx (by omega) hz hroom hd hn k
theorem x_newZ (n : Nat) {j N : Nat} (hj : sh.length = j) (hx : x = (N : Int)) (hN : N ≤ 1000) (hz : Zr sh rf M) (hroom : K.2.2.1 + 1 ≤ K.2.1.1 ∧ K.2.2.2 + N ≤ K.2.1.2) (hd : decode T.2.1 pc = .ok (.newarray .boolean, 2)) (hn : pc + 2 = n)
    (k : X g T (K.1, K.2.1, (K.2.2.1 + 1, K.2.2.2 + N)) n L (rv g j :: st) (sh ++ [.inr (2, N)], rf, M) Q) : X g T K pc L (iv x :: st) (sh, rf, M) Q :=
  x_newP n hj (by omega) rfl rfl rfl (raP rfl) (by show N * 1 ≤ 536870912; omega) (xm 134 (by decide +kernel) (by decide +kernel)) hx (by omega) hz hroom hd hn k
theorem x_newQ (n : Nat) {idx j t N : Nat} {C : String} (hj : sh.length = j) (ht3 : t = 3 ∨ t = 4) (htt : (xtys g)[t]? = some (gA g t, .object C)) (hao : ∀ U, xR g U → va_AO C U) (hcl : Cond.classLink T.1.cls idx C ∈ xG) (hx : x = (N : Int)) (hN : N ≤ 1000) (hz : Zr sh rf M) (hroom : K.2.2.1 + 1 ≤ K.2.1.1 ∧ K.2.2.2 + N ≤ K.2.1.2) (hd : decode T.2.1 pc = .ok (.anewarray idx, 3)) (hn : pc + 3 = n)
    (k : X g T (K.1, K.2.1, (K.2.2.1 + 1, K.2.2.2 + N)) n L (rv g j :: st) (sh ++ [.inr (t, N)], rf, M) Q) : X g T K pc L (iv x :: st) (sh, rf, M) Q := by
  subst hn; subst hj; subst hx
  intro p e s m args below meth c H ls locs C0 hI hS hl
  obtain ⟨hx, hb, hml, hown, hts, hr, hlk, hK, hB, hnm, hZ, hR⟩ := id C0
  refine va_newq (D := gD g) (cl := xcl) (tys := xtys g) hx hb hown (hts _ hcl) (hao s hR) hK hI.1.1 (xDD g _) hS (fun q h => Nat.le_trans hB h) (n := Int32.ofInt (N : Int)) (N' := N) ?_ ?_ (by omega) hroom.1 hroom.2 hd (fun q cA H1 hK1 hP1 hD1 hS1 => ?_)
  · intro h
    have := (iLt (x := (N : Int)) (y := 0) (by omega)).mp h
    omega
  · rw [iClamp (n := 2147483647) (by omega)]; rfl
  refine W.sized (fun hup => ?_)
  have h3 : s.heap.size + K.2.2.1 = gB g + sh.length := hI.2
  have hq : q = gB g + sh.length := xq hP1 hD1 (by show H1.size ≤ gB g + sh.length + 1; omega)
  subst hq
  have hcA : cA = gA g t := by
    have h5 : (xtys g ++ [(cA, FieldType.object C)])[5]? = some (cA, FieldType.object C) := rfl
    exact raO (hK1.2 5 _ h5).2 (hK.2 t _ htt).2
  subst hcA
  refine k p e s m args below meth c H1 ls locs C0 ⟨xI_push hP1 rfl ?_ hI.1.2, ?_⟩ hS1 hl
  · have e0 : (fun q => (rf sh.length q).map (fun q => gB g + q)) = (fun _ => (none : Option Nat)) := by
      funext q; rw [(hz sh.length (Nat.le_refl _)).1]; rfl
    simp only [xE, if_neg (show ¬ t < 3 by omega), e0]
  · show s.heap.size + (K.2.2.1 + 1) = gB g + (sh ++ [Sum.inr (t, N)]).length
    simp; omega
theorem x_putR (n : Nat) {idx i ci j : Nat} (kf : Nat) (hd : decode T.2.1 pc = .ok (.putfield idx, 3)) (hn : pc + 3 = n) (hf : FL T.1.cls idx ci kf) (hfin : (xT ci kf).2.2.2 = true) (hdecl : (xT ci kf).1 = T.1.cls) (hin : T.1.name = "<init>") (hr : xRef ci kf = true) (hs : sh[i]? = some (.inl ci)) (k : X g T K n L st (sh, upr rf i kf (some j), M) Q) : X g T K pc L (rv g j :: rv g i :: st) (sh, rf, M) Q := by
  subst hn
  intro p e s m args below meth c H ls locs C hI hS hl
  obtain ⟨h8, hkN, hw⟩ := hf
  obtain ⟨hx, hb, hml, hown, hts, -, -, hK, -, hnm, -⟩ := id C
  have hat := xW_at (g := g) (hp := (sh, rf, M)) hs
  have hrt : isRT (xty ci kf) = true := by rw [← xRT ci h8 kf hkN]; exact hr
  refine va_putF (D := gD g) (ci := ci) (v := rv g j) (ty := xty ci kf) (C := xC ci) (T := xT ci) (N := xN ci) hx hb hts (xin h8) (xty ci) (xty_ok h8) (xnm h8) hown hK hI.1.1 (xDD g _) hS i hat (xcl_at h8) kf hkN (hts _ hw) (fun _ h9 => h9) hfin (hnm.trans hin) hdecl (xty_ok h8 kf hkN) (isRT_nar hrt _) (isRT_fit hrt _) (by simp [hkN]) hd (fun H1 locs1 hP1 _ hS1 => ?_)
  refine k p e s m args below meth c H1 ls locs1 C ⟨⟨?_, hI.1.2⟩, hI.2⟩ hS1 hl
  rw [xfs_ref j hr] at hP1
  have e := xW_upd (g := g) (hp := (sh, rf, M)) (hp' := (sh, upr rf i kf (some j), M)) hs rfl (fun q hq => upr_o rf kf (some j) hq) (fun q _ => rfl)
  rw [← e]
  exact hP1
theorem x_astq (n : Nat) {i t len j ci : Nat} (ht : (t = 3 ∧ ci = 1) ∨ (t = 4 ∧ ci = 2)) (hd : decode T.2.1 pc = .ok (.aastore, 1)) (hn : pc + 1 = n) (hs : sh[i]? = some (.inr (t, len))) (hsj : sh[j]? = some (.inl ci)) (hr : 0 ≤ x ∧ x < len ∧ len < 2147483648) (k : X g T K n L st (sh, upr rf i x.toNat (some j), M) Q) : X g T K pc L (rv g j :: iv x :: rv g i :: st) (sh, rf, M) Q := by
  subst hn
  intro p e s m args below meth c H ls locs C hI hS hl
  obtain ⟨hx, hb, hml, hown, hts, -, -, hK, -, hnm, -⟩ := id C
  have hat := xW_at (g := g) (hp := (sh, rf, M)) hs
  have haj := xW_at (g := g) (hp := (sh, rf, M)) hsj
  have h3 : ¬ t < 3 := by omega
  have hE : xE g (sh, rf, M) i (.inr (t, len)) = .inl (gA g t, len, .inr (.inr (.inr (.inr (fun q => (rf i q).map (fun q => gB g + q)))))) := by
    simp only [xE, if_neg h3]
  rw [hE] at hat
  have hfin : ∀ (r : vw_C), xcl[ci]? = some r → (xtys g)[t]? = some (gA g t, .object r.1) → W p (gL g) e (xroom K.1 K.2.1.1 K.2.1.2) s m args below meth c H locs K.2.2.1 K.2.2.2 (MQ below (xQ g K.2.1.1 Q) args s K.2.1.1 K.2.1.2 (xA g)) (F0 m pc ls (rv g j :: iv x :: rv g i :: st)) := fun r hc htt => by
    refine va_astq (D := gD g) (cl := xcl) (tys := xtys g) hx hb hK hI.1.1 (xDD g _) hS i t j ci hat htt haj hc (iIn hr) hd (fun H1 locs1 hP1 _ hS1 => ?_)
    refine k p e s m args below meth c H1 ls locs1 C ⟨⟨?_, hI.1.2⟩, hI.2⟩ hS1 hl
    have e := xW_upd (g := g) (hp := (sh, rf, M)) (hp' := (sh, upr rf i x.toNat (some j), M)) hs rfl (fun q hq => upr_o rf _ (some j) hq) (fun q _ => rfl)
    rw [← e]
    have hE2 : xE g (sh, upr rf i x.toNat (some j), M) i (.inr (t, len)) = .inl (gA g t, len, .inr (.inr (.inr (.inr (va_up (fun q => (rf i q).map (fun q => gB g + q)) (Int32.ofInt x).toNatClampNeg (some (gB g + j))))))) := by
      have ef : (fun q => (upr rf i x.toNat (some j) i q).map (fun q => gB g + q)) = va_up (fun q => (rf i q).map (fun q => gB g + q)) (Int32.ofInt x).toNatClampNeg (some (gB g + j)) := by
        funext q
        rw [iClamp hr]
        unfold va_up upr
        by_cases e : q = x.toNat
        · rw [if_pos e, if_pos ⟨rfl, e⟩]; rfl
        · rw [if_neg e, if_neg (fun z => e z.2)]
      simp only [xE, if_neg h3, ef]
    rw [hE2]
    exact hP1
  rcases ht with ⟨rfl, rfl⟩ | ⟨rfl, rfl⟩
  · exact hfin _ rfl rfl
  · exact hfin _ rfl rfl
theorem x_obj (n : Nat) {hp : Hp} {idx i : Nat} (hd : decode T.2.1 pc = .ok (.invokespecial idx, 3)) (hn : pc + 3 = n) (hlink : Cond.methodLink T.1.cls idx Lib.objectInit ∈ xG) (hcat : (st.map fun v => v.category).sum ≤ 8) (hroom : 1 ≤ K.1) (k : X g T K n L st hp Q) : X g T K pc L (rv g i :: st) hp Q := by
  subst hn
  intro p e s m args below meth c H ls locs C hI hS hl
  obtain ⟨hx, hb, hml, hown, hts, -⟩ := id C
  refine W.objInit hx hb hown (hts _ hlink) (hts _ (xm 21 (by decide +kernel) (by decide +kernel))) (hts _ (xm 22 (by decide +kernel) (by decide +kernel))) rfl (by rw [hml]; exact hl.1) rfl hd hroom ?_ ?_
  · have h1 := lv_room (m := m) (pc := pc) (ls := ls) (rest := rv g i :: st) hcat
    show _ ≤ 35 * K.1
    omega
  · exact k p e s m args below meth c H ls locs C hI hS hl
theorem x_initN (n : Nat) {hp : Hp} {T2 : XT} {d mc ms idx i : Nat} {Q2 : Option Value → Hp → Prop} (hc : Con g T2 d mc ms [rv g i] hp Q2) (hM : MI T2 0) (hmem : (T.1.cls, idx, T2.1, RX6) ∈ xNs) (hd : decode T.2.1 pc = .ok (.invokespecial idx, 3)) (hn : pc + 3 = n) (hcat : (st.map fun v => v.category).sum ≤ 8) (hroom : d + 1 ≤ K.1 ∧ K.2.2.1 + mc ≤ K.2.1.1 ∧ K.2.2.2 + ms ≤ K.2.1.2)
    (k : ∀ (v : Option Value) (hp' : Hp), Q2 v hp' → X g T (K.1, K.2.1, (K.2.2.1 + mc, K.2.2.2 + ms)) n L (v.toList ++ st) hp' Q) : X g T K pc L (rv g i :: st) hp Q := by
  subst hn
  intro p e s m args below meth c H ls locs C hI hS hl
  obtain ⟨hx, hb, hml, hown, hts, hr, hlk, hK, hB, hnm, hZ, hR⟩ := id C
  refine W.sized (fun hup => ?_)
  have hlo := xlow hI.1 hI.2 hB hS
  have hHz : H.size = gB g + hp.1.length := by omega
  obtain ⟨y2, c2, n2, r2⟩ := T2
  obtain ⟨⟨m1, m2, m3, m4⟩, m5, m6, m7⟩ := hM
  have m7 : r2 = none := m7
  subst m7
  refine x_ofRun (va_runIN (As := []) (rest := st) (Ts := xG) (nL := T.2.2.1) (bytes := c2) (maxL := n2) (host := RX6) ⟨hx, hb, hml, hown, hts⟩ hc ⟨va_cnB 0 hts (xgood m1) rfl rfl rfl (hR.2.1 _ hmem) (hts _ m2) m3 ⟨hroom.1, ?_⟩, m6, hts _ m5⟩ ⟨xblind, xpre C hI.1 hHz hS _⟩ rfl rfl hl.1 rfl (lv_room hcat) hd ⟨hroom.2.1, hroom.2.2⟩) hS (fun v hp' H1 locs1 hq hi hs1 => k v hp' hq p e s m args below meth c H1 ls locs1 C ⟨hi.1, ?_⟩ hs1 hl)
  · show 8 + (n2 + 11) + 35 * d ≤ 35 * K.1
    have m4 : n2 ≤ 16 := m4
    omega
  · show s.heap.size + (K.2.2.1 + mc) = gB g + hp'.1.length
    have := hi.2
    omega
end CROWS
