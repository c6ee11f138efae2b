def up2 (M : Mem) (i : Nat) (k v : Int) : Mem := fun a b => if a = i ∧ b = k then v else M a b
theorem up2_s (M : Mem) (i : Nat) (k v : Int) : up2 M i k v i k = v := by simp [up2]
theorem up2_o (M : Mem) {i a : Nat} (k v : Int) (h : a ≠ i) : up2 M i k v a = M a := by funext b; simp [up2, h]
theorem up2_k (M : Mem) (i : Nat) {k b : Int} (v : Int) (h : b ≠ k) : up2 M i k v i b = M i b := by simp [up2, h]
theorem up2_i (M : Mem) (i : Nat) (k b v : Int) : up2 M i k v i b = if b = k then v else M i b := by simp [up2]
def upr (rf : Nat → Nat → Option Nat) (i k : Nat) (v : Option Nat) : Nat → Nat → Option Nat := fun a b => if a = i ∧ b = k then v else rf a b
theorem upr_o (rf : Nat → Nat → Option Nat) {i a : Nat} (k : Nat) (v : Option Nat) (h : a ≠ i) : upr rf i k v a = rf a := by funext b; simp [upr, h]
theorem xfs_int {g : GG} {sh : List Shp} {rf : Nat → Nat → Option Nat} {M : Mem} {i ci k : Nat} (v : Int) (hr : xRef ci k = false) : ((List.range (xN ci)).map (xF g (sh, rf, M) i ci)).set k (iv v) = (List.range (xN ci)).map (xF g (sh, rf, up2 M i (k : Int) v) i ci) := by
  apply List.ext_getElem?
  intro j
  rw [List.getElem?_set]
  by_cases h : k = j
  · subst h
    rw [if_pos rfl]
    by_cases hk : k < xN ci
    · simp [hk, xF, hr, up2]
    · simp [hk]
  · rw [if_neg h]
    by_cases hj : j < xN ci
    · have h' : ¬ j = k := fun e => h e.symm
      have h2 : ¬ (j : Int) = (k : Int) := by omega
      simp [hj, xF, up2, h2]
    · simp [hj]
theorem xfs_ref {g : GG} {sh : List Shp} {rf : Nat → Nat → Option Nat} {M : Mem} {i ci k : Nat} (v : Nat) (hr : xRef ci k = true) : ((List.range (xN ci)).map (xF g (sh, rf, M) i ci)).set k (rv g v) = (List.range (xN ci)).map (xF g (sh, upr rf i k (some v), M) i ci) := by
  apply List.ext_getElem?
  intro j
  rw [List.getElem?_set]
  by_cases h : k = j
  · subst h
    rw [if_pos rfl]
    by_cases hk : k < xN ci
    · simp [hk, xF, hr, upr, va_rf, rv]
    · simp [hk]
  · rw [if_neg h]
    by_cases hj : j < xN ci
    · have h' : ¬ j = k := fun e => h e.symm
      simp [hj, xF, upr, h']
    · simp [hj]
/-- a field's link: class own's entry idx is field k of class ci -/
def FL (own : String) (idx ci k : Nat) : Prop := ci < 8 ∧ k < xN ci ∧ Cond.fieldLink own idx (xT ci k).1 (xT ci k).2.1 (xT ci k).2.2.1 ∈ xG
theorem xin_all : ∀ ci, ci < 8 → ∀ w ∈ u_ws (xC ci) (xT ci) (xN ci), w ∈ lw_tbl := by decide +kernel
theorem xin_good : ∀ ci, ci < 8 → ∀ w ∈ u_ws (xC ci) (xT ci) (xN ci), goodWord w = true := by decide +kernel
theorem xin {ci : Nat} (h : ci < 8) : ∀ w ∈ u_ws (xC ci) (xT ci) (xN ci), w ∈ xG := fun w hw => List.mem_filter.mpr ⟨xin_all ci h w hw, xin_good ci h w hw⟩
theorem x_ofRun {g : GG} {p : Program} {l : Launch} {e : Env} {R : Room} {s : State} {m : MethodId} {args a : Array Value} {below : List Frame} {meth : Method} {c : Code} {H : Heap} {locs : List Loc} {cells slots mc ms pc : Nat} {Q : State → Prop} {ls : Array Slot} {st0 rest : List Value} {Q2 : Option Value → Hp → Prop}
    (hr : va_Run p l e R s m args below meth c H locs cells slots mc ms (F0 m pc ls st0) rest (xQ g mc Q2 a) (xA g)) (hS : va_S (xA g) s.heap H locs)
    (kk : ∀ (v : Option Value) (hp : Hp) (H1 : Heap) (locs1 : List Loc), Q2 v hp → (xI g hp H1 ∧ H.size + mc = gB g + hp.1.length) → va_S (xA g) s.heap H1 locs1 → W p l e R s m args below meth c H1 locs1 (cells + mc) (slots + ms) Q (F0 m (pc + 3) ls (v.toList ++ rest))) : W p l e R s m args below meth c H locs cells slots Q (F0 m pc ls st0) := by
  intro Tt hT X
  obtain ⟨v, st₀, t, T', L, h0, X', hL, e1, e2, ⟨⟨v', hp', hv, hq, hi, hj⟩, hz, hk⟩, st⟩ := hr Tt hT X
  cases hv
  rw [h0] at hz hk hj
  obtain ⟨t2, a1, b1⟩ := kk v hp' T'.heap (locs ++ L) hq ⟨by rw [e1]; exact hi, hj⟩ ⟨Nat.le_trans hS.1 (by rw [e1]; exact hz), fun q h1 h2 => by rw [e1, hk q (Nat.lt_of_lt_of_le h1 hS.1) h2]; exact hS.2.1 q h1 h2, fun q hq => by
      rcases List.mem_append.mp hq with h | h
      · exact hS.2.2 q h
      · exact hL q h⟩ T' rfl X'
  exact ⟨t2, st t2 a1, b1⟩
/-- a method as a callee: n parameters -/
def Mn (T : XT) (n : Nat) : Prop := Cond.code T.1 T.2.1 T.2.2.1 T.2.2.2 ∈ xG ∧ Cond.initialized T.1.cls ∈ xG ∧ (T.1.cls ≠ "java/lang/invoke/MethodHandle" ∧ T.1.cls ≠ "java/lang/invoke/VarHandle" ∧ (parseMethodDescriptor T.1.desc).map (fun d => d.parameters.length) = some n) ∧ T.2.2.1 ≤ 16
def MV (T : XT) (n : Nat) : Prop := Mn T n ∧ Cond.instanceMethod T.1 ∈ xG ∧ Cond.selects T.1.cls T.1 T.1 ∈ xG
def MS (T : XT) (n : Nat) : Prop := Mn T n ∧ Cond.static T.1 ∈ xG
def MI (T : XT) (n : Nat) : Prop := Mn T n ∧ Cond.instanceMethod T.1 ∈ xG ∧ T.1.name = "<init>" ∧ T.2.2.2 = none
theorem xblind {g : GG} {hp : Hp} {av : List Value} : FrameBlind (va_Pc av (xPc g hp)) := by
  intro a U f mk q
  obtain ⟨h0, h1, hz, h2, h3, h4⟩ := q
  exact ⟨h0, h1, hz, va_K.moved (u := U) (U := U.calling f mk a) (Vm.Alike.refl U.vm) h2, xZ.moved (u := U) (U := U.calling f mk a) (Vm.Alike.refl U.vm) h3, xR.same (u := U) (U := U.calling f mk a) rfl h4⟩
theorem xpre {g : GG} {T : XT} {p : Program} {s : State} {m : MethodId} {args : Array Value} {meth : Method} {c : Code} {hp : Hp} {H : Heap} {locs : List Loc} (C : XC g T p s m args meth c) (hI : xI g hp H) (hz : H.size = gB g + hp.1.length) (hS : va_S (xA g) s.heap H locs) (av : List Value) : ∀ U : State, U.heap = H → s.WarmedH U.vm → va_Pc av (xPc g hp) av.toArray U := by
  obtain ⟨-, -, -, -, -, -, -, hK, hB, -, hZ, hR⟩ := C
  intro U hU hW
  refine ⟨rfl, by rw [hU]; exact hI, by rw [hU]; exact hz, va_K.moved hW.alike hK, ?_, hR.warm hW⟩
  refine xZ.moved hW.alike (hZ.kept fun a h1 h2 => ?_)
  rw [hU]
  exact hS.2.1 a h1 h2
section XROWS2
variable {g : GG} {T : XT} {K : XK} {pc : Nat} {L L' : List (Option Value)} {st : List Value} {hp : Hp} {Q : Option Value → Hp → Prop} {x y z : Int} {sh : List Shp} {rf : Nat → Nat → Option Nat} {M : Mem}
theorem x_icmp_eq (t n : Nat) {off : Int} (hd : decode T.2.1 pc = .ok (.if_icmp .eq off, 3)) (ht : (pc : Int) + off = (t : Int)) (hn : pc + 3 = n) (hr : -2147483648 ≤ x ∧ x ≤ 2147483647 ∧ -2147483648 ≤ y ∧ y ≤ 2147483647) (kt : x = y → X g T K t L st hp Q) (kf : ¬ x = y → X g T K n L st hp Q) : X g T K pc L (iv y :: iv x :: st) hp Q := by
  subst hn
  intro p e s m args below meth c H ls locs C hI hS hl
  have hEq := iEq (x := x) (y := y) hr
  have hLt := iLt (x := x) (y := y) hr
  have hLe := iLe (x := x) (y := y) hr
  have hLt' := iLt (x := y) (y := x) (by omega)
  have hLe' := iLe (x := y) (y := x) (by omega)
  refine lv_icmp_eq C.1 C.2.1 hd ht (fun h => kt ?_ p e s m args below meth c H ls locs C hI hS hl) (fun h => kf ?_ p e s m args below meth c H ls locs C hI hS hl)
  · first | exact hEq.mp h | exact hLt.mp h | exact hLe.mp h | exact hLt'.mp h | exact hLe'.mp h | exact fun q => h (hEq.mpr q)
  · first | exact hEq.mp h | exact fun q => h (hEq.mpr q) | exact Decidable.byContradiction fun q => h (hEq.mpr q) | exact Decidable.byContradiction fun q => h (hLt.mpr (by omega)) | exact Decidable.byContradiction fun q => h (hLe.mpr (by omega)) | exact Decidable.byContradiction fun q => h (hLt'.mpr (by omega)) | exact Decidable.byContradiction fun q => h (hLe'.mpr (by omega))
theorem x_if_eq (t n : Nat) {off : Int} (hd : decode T.2.1 pc = .ok (.ifCond .eq off, 3)) (ht : (pc : Int) + off = (t : Int)) (hn : pc + 3 = n) (hr : -2147483648 ≤ x ∧ x ≤ 2147483647) (kt : x = 0 → X g T K t L st hp Q) (kf : ¬ x = 0 → X g T K n L st hp Q) : X g T K pc L (iv x :: st) hp Q := by
  subst hn
  intro p e s m args below meth c H ls locs C hI hS hl
  have hEq := iEq (x := x) (y := 0) (show -2147483648 ≤ x ∧ x ≤ 2147483647 ∧ -2147483648 ≤ (0 : Int) ∧ (0 : Int) ≤ 2147483647 by omega)
  have hLt := iLt (x := x) (y := 0) (show -2147483648 ≤ x ∧ x ≤ 2147483647 ∧ -2147483648 ≤ (0 : Int) ∧ (0 : Int) ≤ 2147483647 by omega)
  have hLe := iLe (x := x) (y := 0) (show -2147483648 ≤ x ∧ x ≤ 2147483647 ∧ -2147483648 ≤ (0 : Int) ∧ (0 : Int) ≤ 2147483647 by omega)
  have hLt' := iLt (x := 0) (y := x) (by omega)
  have hLe' := iLe (x := 0) (y := x) (by omega)
  refine lv_if_eq C.1 C.2.1 hd ht (fun h => kt ?_ p e s m args below meth c H ls locs C hI hS hl) (fun h => kf ?_ p e s m args below meth c H ls locs C hI hS hl)
  · first | exact hEq.mp h | exact hLt.mp h | exact hLe.mp h | exact hLt'.mp h | exact hLe'.mp h | exact fun q => h (hEq.mpr q)
  · first | exact hEq.mp h | exact fun q => h (hEq.mpr q) | exact Decidable.byContradiction fun q => h (hEq.mpr q) | exact Decidable.byContradiction fun q => h (hLt.mpr (by omega)) | exact Decidable.byContradiction fun q => h (hLe.mpr (by omega)) | exact Decidable.byContradiction fun q => h (hLt'.mpr (by omega)) | exact Decidable.byContradiction fun q => h (hLe'.mpr (by omega))
theorem x_icmp_ne (t n : Nat) {off : Int} (hd : decode T.2.1 pc = .ok (.if_icmp .ne off, 3)) (ht : (pc : Int) + off = (t : Int)) (hn : pc + 3 = n) (hr : -2147483648 ≤ x ∧ x ≤ 2147483647 ∧ -2147483648 ≤ y ∧ y ≤ 2147483647) (kt : ¬ x = y → X g T K t L st hp Q) (kf : x = y → X g T K n L st hp Q) : X g T K pc L (iv y :: iv x :: st) hp Q := by
  subst hn
  intro p e s m args below meth c H ls locs C hI hS hl
  have hEq := iEq (x := x) (y := y) hr
  have hLt := iLt (x := x) (y := y) hr
  have hLe := iLe (x := x) (y := y) hr
  have hLt' := iLt (x := y) (y := x) (by omega)
  have hLe' := iLe (x := y) (y := x) (by omega)
  refine lv_icmp_ne C.1 C.2.1 hd ht (fun h => kt ?_ p e s m args below meth c H ls locs C hI hS hl) (fun h => kf ?_ p e s m args below meth c H ls locs C hI hS hl)
  · first | exact hEq.mp h | exact hLt.mp h | exact hLe.mp h | exact hLt'.mp h | exact hLe'.mp h | exact fun q => h (hEq.mpr q)
  · first | exact hEq.mp h | exact fun q => h (hEq.mpr q) | exact Decidable.byContradiction fun q => h (hEq.mpr q) | exact Decidable.byContradiction fun q => h (hLt.mpr (by omega)) | exact Decidable.byContradiction fun q => h (hLe.mpr (by omega)) | exact Decidable.byContradiction fun q => h (hLt'.mpr (by omega)) | exact Decidable.byContradiction fun q => h (hLe'.mpr (by omega))
theorem x_if_ne (t n : Nat) {off : Int} (hd : decode T.2.1 pc = .ok (.ifCond .ne off, 3)) (ht : (pc : Int) + off = (t : Int)) (hn : pc + 3 = n) (hr : -2147483648 ≤ x ∧ x ≤ 2147483647) (kt : ¬ x = 0 → X g T K t L st hp Q) (kf : x = 0 → X g T K n L st hp Q) : X g T K pc L (iv x :: st) hp Q := by
  subst hn
  intro p e s m args below meth c H ls locs C hI hS hl
  have hEq := iEq (x := x) (y := 0) (show -2147483648 ≤ x ∧ x ≤ 2147483647 ∧ -2147483648 ≤ (0 : Int) ∧ (0 : Int) ≤ 2147483647 by omega)
  have hLt := iLt (x := x) (y := 0) (show -2147483648 ≤ x ∧ x ≤ 2147483647 ∧ -2147483648 ≤ (0 : Int) ∧ (0 : Int) ≤ 2147483647 by omega)
  have hLe := iLe (x := x) (y := 0) (show -2147483648 ≤ x ∧ x ≤ 2147483647 ∧ -2147483648 ≤ (0 : Int) ∧ (0 : Int) ≤ 2147483647 by omega)
  have hLt' := iLt (x := 0) (y := x) (by omega)
  have hLe' := iLe (x := 0) (y := x) (by omega)
  refine lv_if_ne C.1 C.2.1 hd ht (fun h => kt ?_ p e s m args below meth c H ls locs C hI hS hl) (fun h => kf ?_ p e s m args below meth c H ls locs C hI hS hl)
  · first | exact hEq.mp h | exact hLt.mp h | exact hLe.mp h | exact hLt'.mp h | exact hLe'.mp h | exact fun q => h (hEq.mpr q)
  · first | exact hEq.mp h | exact fun q => h (hEq.mpr q) | exact Decidable.byContradiction fun q => h (hEq.mpr q) | exact Decidable.byContradiction fun q => h (hLt.mpr (by omega)) | exact Decidable.byContradiction fun q => h (hLe.mpr (by omega)) | exact Decidable.byContradiction fun q => h (hLt'.mpr (by omega)) | exact Decidable.byContradiction fun q => h (hLe'.mpr (by omega))
theorem x_icmp_lt (t n : Nat) {off : Int} (hd : decode T.2.1 pc = .ok (.if_icmp .lt off, 3)) (ht : (pc : Int) + off = (t : Int)) (hn : pc + 3 = n) (hr : -2147483648 ≤ x ∧ x ≤ 2147483647 ∧ -2147483648 ≤ y ∧ y ≤ 2147483647) (kt : x < y → X g T K t L st hp Q) (kf : y ≤ x → X g T K n L st hp Q) : X g T K pc L (iv y :: iv x :: st) hp Q := by
  subst hn
  intro p e s m args below meth c H ls locs C hI hS hl
  have hEq := iEq (x := x) (y := y) hr
  have hLt := iLt (x := x) (y := y) hr
  have hLe := iLe (x := x) (y := y) hr
  have hLt' := iLt (x := y) (y := x) (by omega)
  have hLe' := iLe (x := y) (y := x) (by omega)
  refine lv_icmp_lt C.1 C.2.1 hd ht (fun h => kt ?_ p e s m args below meth c H ls locs C hI hS hl) (fun h => kf ?_ p e s m args below meth c H ls locs C hI hS hl)
  · first | exact hEq.mp h | exact hLt.mp h | exact hLe.mp h | exact hLt'.mp h | exact hLe'.mp h | exact fun q => h (hEq.mpr q)
  · first | exact hEq.mp h | exact fun q => h (hEq.mpr q) | exact Decidable.byContradiction fun q => h (hEq.mpr q) | exact Decidable.byContradiction fun q => h (hLt.mpr (by omega)) | exact Decidable.byContradiction fun q => h (hLe.mpr (by omega)) | exact Decidable.byContradiction fun q => h (hLt'.mpr (by omega)) | exact Decidable.byContradiction fun q => h (hLe'.mpr (by omega))
theorem x_if_lt (t n : Nat) {off : Int} (hd : decode T.2.1 pc = .ok (.ifCond .lt off, 3)) (ht : (pc : Int) + off = (t : Int)) (hn : pc + 3 = n) (hr : -2147483648 ≤ x ∧ x ≤ 2147483647) (kt : x < 0 → X g T K t L st hp Q) (kf : 0 ≤ x → X g T K n L st hp Q) : X g T K pc L (iv x :: st) hp Q := by
  subst hn
  intro p e s m args below meth c H ls locs C hI hS hl
  have hEq := iEq (x := x) (y := 0) (show -2147483648 ≤ x ∧ x ≤ 2147483647 ∧ -2147483648 ≤ (0 : Int) ∧ (0 : Int) ≤ 2147483647 by omega)
  have hLt := iLt (x := x) (y := 0) (show -2147483648 ≤ x ∧ x ≤ 2147483647 ∧ -2147483648 ≤ (0 : Int) ∧ (0 : Int) ≤ 2147483647 by omega)
  have hLe := iLe (x := x) (y := 0) (show -2147483648 ≤ x ∧ x ≤ 2147483647 ∧ -2147483648 ≤ (0 : Int) ∧ (0 : Int) ≤ 2147483647 by omega)
  have hLt' := iLt (x := 0) (y := x) (by omega)
  have hLe' := iLe (x := 0) (y := x) (by omega)
  refine lv_if_lt C.1 C.2.1 hd ht (fun h => kt ?_ p e s m args below meth c H ls locs C hI hS hl) (fun h => kf ?_ p e s m args below meth c H ls locs C hI hS hl)
  · first | exact hEq.mp h | exact hLt.mp h | exact hLe.mp h | exact hLt'.mp h | exact hLe'.mp h | exact fun q => h (hEq.mpr q)
  · first | exact hEq.mp h | exact fun q => h (hEq.mpr q) | exact Decidable.byContradiction fun q => h (hEq.mpr q) | exact Decidable.byContradiction fun q => h (hLt.mpr (by omega)) | exact Decidable.byContradiction fun q => h (hLe.mpr (by omega)) | exact Decidable.byContradiction fun q => h (hLt'.mpr (by omega)) | exact Decidable.byContradiction fun q => h (hLe'.mpr (by omega))
theorem x_icmp_ge (t n : Nat) {off : Int} (hd : decode T.2.1 pc = .ok (.if_icmp .ge off, 3)) (ht : (pc : Int) + off = (t : Int)) (hn : pc + 3 = n) (hr : -2147483648 ≤ x ∧ x ≤ 2147483647 ∧ -2147483648 ≤ y ∧ y ≤ 2147483647) (kt : y ≤ x → X g T K t L st hp Q) (kf : x < y → X g T K n L st hp Q) : X g T K pc L (iv y :: iv x :: st) hp Q := by
  subst hn
  intro p e s m args below meth c H ls locs C hI hS hl
  have hEq := iEq (x := x) (y := y) hr
  have hLt := iLt (x := x) (y := y) hr
  have hLe := iLe (x := x) (y := y) hr
  have hLt' := iLt (x := y) (y := x) (by omega)
  have hLe' := iLe (x := y) (y := x) (by omega)
  refine lv_icmp_ge C.1 C.2.1 hd ht (fun h => kt ?_ p e s m args below meth c H ls locs C hI hS hl) (fun h => kf ?_ p e s m args below meth c H ls locs C hI hS hl)
  · first | exact hEq.mp h | exact hLt.mp h | exact hLe.mp h | exact hLt'.mp h | exact hLe'.mp h | exact fun q => h (hEq.mpr q)
  · first | exact hEq.mp h | exact fun q => h (hEq.mpr q) | exact Decidable.byContradiction fun q => h (hEq.mpr q) | exact Decidable.byContradiction fun q => h (hLt.mpr (by omega)) | exact Decidable.byContradiction fun q => h (hLe.mpr (by omega)) | exact Decidable.byContradiction fun q => h (hLt'.mpr (by omega)) | exact Decidable.byContradiction fun q => h (hLe'.mpr (by omega))
theorem x_if_ge (t n : Nat) {off : Int} (hd : decode T.2.1 pc = .ok (.ifCond .ge off, 3)) (ht : (pc : Int) + off = (t : Int)) (hn : pc + 3 = n) (hr : -2147483648 ≤ x ∧ x ≤ 2147483647) (kt : 0 ≤ x → X g T K t L st hp Q) (kf : x < 0 → X g T K n L st hp Q) : X g T K pc L (iv x :: st) hp Q := by
  subst hn
  intro p e s m args below meth c H ls locs C hI hS hl
  have hEq := iEq (x := x) (y := 0) (show -2147483648 ≤ x ∧ x ≤ 2147483647 ∧ -2147483648 ≤ (0 : Int) ∧ (0 : Int) ≤ 2147483647 by omega)
  have hLt := iLt (x := x) (y := 0) (show -2147483648 ≤ x ∧ x ≤ 2147483647 ∧ -2147483648 ≤ (0 : Int) ∧ (0 : Int) ≤ 2147483647 by omega)
  have hLe := iLe (x := x) (y := 0) (show -2147483648 ≤ x ∧ x ≤ 2147483647 ∧ -2147483648 ≤ (0 : Int) ∧ (0 : Int) ≤ 2147483647 by omega)
  have hLt' := iLt (x := 0) (y := x) (by omega)
  have hLe' := iLe (x := 0) (y := x) (by omega)
  refine lv_if_ge C.1 C.2.1 hd ht (fun h => kt ?_ p e s m args below meth c H ls locs C hI hS hl) (fun h => kf ?_ p e s m args below meth c H ls locs C hI hS hl)
  · first | exact hEq.mp h | exact hLt.mp h | exact hLe.mp h | exact hLt'.mp h | exact hLe'.mp h | exact fun q => h (hEq.mpr q)
  · first | exact hEq.mp h | exact fun q => h (hEq.mpr q) | exact Decidable.byContradiction fun q => h (hEq.mpr q) | exact Decidable.byContradiction fun q => h (hLt.mpr (by omega)) | exact Decidable.byContradiction fun q => h (hLe.mpr (by omega)) | exact Decidable.byContradiction fun q => h (hLt'.mpr (by omega)) | exact Decidable.byContradiction fun q => h (hLe'.mpr (by omega))
theorem x_icmp_gt (t n : Nat) {off : Int} (hd : decode T.2.1 pc = .ok (.if_icmp .gt off, 3)) (ht : (pc : Int) + off = (t : Int)) (hn : pc + 3 = n) (hr : -2147483648 ≤ x ∧ x ≤ 2147483647 ∧ -2147483648 ≤ y ∧ y ≤ 2147483647) (kt : y < x → X g T K t L st hp Q) (kf : x ≤ y → X g T K n L st hp Q) : X g T K pc L (iv y :: iv x :: st) hp Q := by
  subst hn
  intro p e s m args below meth c H ls locs C hI hS hl
  have hEq := iEq (x := x) (y := y) hr
  have hLt := iLt (x := x) (y := y) hr
  have hLe := iLe (x := x) (y := y) hr
  have hLt' := iLt (x := y) (y := x) (by omega)
  have hLe' := iLe (x := y) (y := x) (by omega)
  refine lv_icmp_gt C.1 C.2.1 hd ht (fun h => kt ?_ p e s m args below meth c H ls locs C hI hS hl) (fun h => kf ?_ p e s m args below meth c H ls locs C hI hS hl)
  · first | exact hEq.mp h | exact hLt.mp h | exact hLe.mp h | exact hLt'.mp h | exact hLe'.mp h | exact fun q => h (hEq.mpr q)
  · first | exact hEq.mp h | exact fun q => h (hEq.mpr q) | exact Decidable.byContradiction fun q => h (hEq.mpr q) | exact Decidable.byContradiction fun q => h (hLt.mpr (by omega)) | exact Decidable.byContradiction fun q => h (hLe.mpr (by omega)) | exact Decidable.byContradiction fun q => h (hLt'.mpr (by omega)) | exact Decidable.byContradiction fun q => h (hLe'.mpr (by omega))
theorem x_if_gt (t n : Nat) {off : Int} (hd : decode T.2.1 pc = .ok (.ifCond .gt off, 3)) (ht : (pc : Int) + off = (t : Int)) (hn : pc + 3 = n) (hr : -2147483648 ≤ x ∧ x ≤ 2147483647) (kt : 0 < x → X g T K t L st hp Q) (kf : x ≤ 0 → X g T K n L st hp Q) : X g T K pc L (iv x :: st) hp Q := by
  subst hn
  intro p e s m args below meth c H ls locs C hI hS hl
  have hEq := iEq (x := x) (y := 0) (show -2147483648 ≤ x ∧ x ≤ 2147483647 ∧ -2147483648 ≤ (0 : Int) ∧ (0 : Int) ≤ 2147483647 by omega)
  have hLt := iLt (x := x) (y := 0) (show -2147483648 ≤ x ∧ x ≤ 2147483647 ∧ -2147483648 ≤ (0 : Int) ∧ (0 : Int) ≤ 2147483647 by omega)
  have hLe := iLe (x := x) (y := 0) (show -2147483648 ≤ x ∧ x ≤ 2147483647 ∧ -2147483648 ≤ (0 : Int) ∧ (0 : Int) ≤ 2147483647 by omega)
  have hLt' := iLt (x := 0) (y := x) (by omega)
  have hLe' := iLe (x := 0) (y := x) (by omega)
  refine lv_if_gt C.1 C.2.1 hd ht (fun h => kt ?_ p e s m args below meth c H ls locs C hI hS hl) (fun h => kf ?_ p e s m args below meth c H ls locs C hI hS hl)
  · first | exact hEq.mp h | exact hLt.mp h | exact hLe.mp h | exact hLt'.mp h | exact hLe'.mp h | exact fun q => h (hEq.mpr q)
  · first | exact hEq.mp h | exact fun q => h (hEq.mpr q) | exact Decidable.byContradiction fun q => h (hEq.mpr q) | exact Decidable.byContradiction fun q => h (hLt.mpr (by omega)) | exact Decidable.byContradiction fun q => h (hLe.mpr (by omega)) | exact Decidable.byContradiction fun q => h (hLt'.mpr (by omega)) | exact Decidable.byContradiction fun q => h (hLe'.mpr (by omega))
theorem x_icmp_le (t n : Nat) {off : Int} (hd : decode T.2.1 pc = .ok (.if_icmp .le off, 3)) (ht : (pc : Int) + off = (t : Int)) (hn : pc + 3 = n) (hr : -2147483648 ≤ x ∧ x ≤ 2147483647 ∧ -2147483648 ≤ y ∧ y ≤ 2147483647) (kt : x ≤ y → X g T K t L st hp Q) (kf : y < x → X g T K n L st hp Q) : X g T K pc L (iv y :: iv x :: st) hp Q := by
  subst hn
  intro p e s m args below meth c H ls locs C hI hS hl
  have hEq := iEq (x := x) (y := y) hr
  have hLt := iLt (x := x) (y := y) hr
  have hLe := iLe (x := x) (y := y) hr
  have hLt' := iLt (x := y) (y := x) (by omega)
  have hLe' := iLe (x := y) (y := x) (by omega)
  refine lv_icmp_le C.1 C.2.1 hd ht (fun h => kt ?_ p e s m args below meth c H ls locs C hI hS hl) (fun h => kf ?_ p e s m args below meth c H ls locs C hI hS hl)
  · first | exact hEq.mp h | exact hLt.mp h | exact hLe.mp h | exact hLt'.mp h | exact hLe'.mp h | exact fun q => h (hEq.mpr q)
  · first | exact hEq.mp h | exact fun q => h (hEq.mpr q) | exact Decidable.byContradiction fun q => h (hEq.mpr q) | exact Decidable.byContradiction fun q => h (hLt.mpr (by omega)) | exact Decidable.byContradiction fun q => h (hLe.mpr (by omega)) | exact Decidable.byContradiction fun q => h (hLt'.mpr (by omega)) | exact Decidable.byContradiction fun q => h (hLe'.mpr (by omega))
theorem x_if_le (t n : Nat) {off : Int} (hd : decode T.2.1 pc = .ok (.ifCond .le off, 3)) (ht : (pc : Int) + off = (t : Int)) (hn : pc + 3 = n) (hr : -2147483648 ≤ x ∧ x ≤ 2147483647) (kt : x ≤ 0 → X g T K t L st hp Q) (kf : 0 < x → X g T K n L st hp Q) : X g T K pc L (iv x :: st) hp Q := by
  subst hn
  intro p e s m args below meth c H ls locs C hI hS hl
  have hEq := iEq (x := x) (y := 0) (show -2147483648 ≤ x ∧ x ≤ 2147483647 ∧ -2147483648 ≤ (0 : Int) ∧ (0 : Int) ≤ 2147483647 by omega)
  have hLt := iLt (x := x) (y := 0) (show -2147483648 ≤ x ∧ x ≤ 2147483647 ∧ -2147483648 ≤ (0 : Int) ∧ (0 : Int) ≤ 2147483647 by omega)
  have hLe := iLe (x := x) (y := 0) (show -2147483648 ≤ x ∧ x ≤ 2147483647 ∧ -2147483648 ≤ (0 : Int) ∧ (0 : Int) ≤ 2147483647 by omega)
  have hLt' := iLt (x := 0) (y := x) (by omega)
  have hLe' := iLe (x := 0) (y := x) (by omega)
  refine lv_if_le C.1 C.2.1 hd ht (fun h => kt ?_ p e s m args below meth c H ls locs C hI hS hl) (fun h => kf ?_ p e s m args below meth c H ls locs C hI hS hl)
  · first | exact hEq.mp h | exact hLt.mp h | exact hLe.mp h | exact hLt'.mp h | exact hLe'.mp h | exact fun q => h (hEq.mpr q)
  · first | exact hEq.mp h | exact fun q => h (hEq.mpr q) | exact Decidable.byContradiction fun q => h (hEq.mpr q) | exact Decidable.byContradiction fun q => h (hLt.mpr (by omega)) | exact Decidable.byContradiction fun q => h (hLe.mpr (by omega)) | exact Decidable.byContradiction fun q => h (hLt'.mpr (by omega)) | exact Decidable.byContradiction fun q => h (hLe'.mpr (by omega))
theorem x_ifeq_b (t n : Nat) {off : Int} {c : Prop} [Decidable c] (hd : decode T.2.1 pc = .ok (.ifCond .eq off, 3)) (ht : (pc : Int) + off = (t : Int)) (hn : pc + 3 = n) (kt : ¬ c → X g T K t L st hp Q) (kf : c → X g T K n L st hp Q) : X g T K pc L (iv (bI c) :: st) hp Q := by
  have hb := bI_or c
  refine x_if_eq t n hd ht hn (by omega) (fun h => kt fun q => ?_) (fun h => kf ?_)
  · rw [bI_t q] at h; cases h
  · exact Decidable.byContradiction fun q => h (bI_f q)
theorem x_ifne_b (t n : Nat) {off : Int} {c : Prop} [Decidable c] (hd : decode T.2.1 pc = .ok (.ifCond .ne off, 3)) (ht : (pc : Int) + off = (t : Int)) (hn : pc + 3 = n) (kt : c → X g T K t L st hp Q) (kf : ¬ c → X g T K n L st hp Q) : X g T K pc L (iv (bI c) :: st) hp Q := by
  have hb := bI_or c
  refine x_if_ne t n hd ht hn (by omega) (fun h => kt ?_) (fun h => kf fun q => ?_)
  · exact Decidable.byContradiction fun q => h (bI_f q)
  · rw [bI_t q] at h; cases h
theorem x_getI (n : Nat) {idx i ci : Nat} (kf : Nat) (kz : Int) (hkz : (kf : Int) = kz) (hd : decode T.2.1 pc = .ok (.getfield idx, 3)) (hn : pc + 3 = n) (hf : FL T.1.cls idx ci kf) (hr : xRef ci kf = false) (hs : sh[i]? = some (.inl ci)) (k : (-2147483648 ≤ M i kz ∧ M i kz ≤ 2147483647) → X g T K n L (iv (M i kz) :: st) (sh, rf, M) Q) : X g T K pc L (rv g i :: st) (sh, rf, M) Q := by
  subst hn; subst hkz
  intro p e s m args below meth c H ls locs C hI hS hl
  have k := k (hI.1.2 i kf) p e s m args below meth c H ls locs C hI hS hl
  obtain ⟨h8, hkN, hw⟩ := hf
  obtain ⟨hx, hb, hml, hown, hts, -, -, hK, -⟩ := C
  have hat := xW_at (g := g) (hp := (sh, rf, M)) hs
  refine va_get (D := gD g) (ci := ci) (v := iv (M i kf)) (C := xC ci) (T := xT ci) (N := xN ci) hx hb hts (xin h8) hown hK hI.1.1 i hat (xcl_at h8) kf hkN (hts _ hw) (fun _ h9 => h9) ?_ hd k
  simp [hkN, xF, hr]
theorem x_getR (n : Nat) {idx i ci : Nat} (kf j : Nat) (hd : decode T.2.1 pc = .ok (.getfield idx, 3)) (hn : pc + 3 = n) (hf : FL T.1.cls idx ci kf) (hr : xRef ci kf = true) (hs : sh[i]? = some (.inl ci)) (hj : rf i kf = some j) (k : X g T K n L (rv g j :: st) (sh, rf, M) Q) : X g T K pc L (rv g i :: st) (sh, rf, M) Q := by
  subst hn
  intro p e s m args below meth c H ls locs C hI hS hl
  have k := k p e s m args below meth c H ls locs C hI hS hl
  obtain ⟨h8, hkN, hw⟩ := hf
  obtain ⟨hx, hb, hml, hown, hts, -, -, hK, -⟩ := C
  have hat := xW_at (g := g) (hp := (sh, rf, M)) hs
  refine va_get (D := gD g) (ci := ci) (v := rv g j) (C := xC ci) (T := xT ci) (N := xN ci) hx hb hts (xin h8) hown hK hI.1.1 i hat (xcl_at h8) kf hkN (hts _ hw) (fun _ h9 => h9) ?_ hd k
  simp [hkN, xF, hr, hj, va_rf, rv]
theorem x_putI (n : Nat) {idx i ci : Nat} (kf : Nat) (kz : Int) (hkz : (kf : Int) = kz) {v : Int} (hd : decode T.2.1 pc = .ok (.putfield idx, 3)) (hn : pc + 3 = n) (hf : FL T.1.cls idx ci kf) (hfin : (xT ci kf).2.2.2 = false) (hr : xRef ci kf = false) (hs : sh[i]? = some (.inl ci)) (hv : -2147483648 ≤ v ∧ v ≤ 2147483647) (k : X g T K n L st (sh, rf, up2 M i kz v) Q) : X g T K pc L (iv v :: rv g i :: st) (sh, rf, M) Q := by
  subst hn; subst hkz
  intro p e s m args below meth c H ls locs C hI hS hl
  obtain ⟨h8, hkN, hw⟩ := hf
  obtain ⟨hx, hb, hml, hown, hts, -, -, hK, -⟩ := id C
  have hat := xW_at (g := g) (hp := (sh, rf, M)) hs
  refine va_put (D := gD g) (ci := ci) (v := iv v) (ty := .int) (C := xC ci) (T := xT ci) (N := xN ci) hx hb hts (xin h8) (xty ci) (xty_ok h8) (xnm h8) hown hK hI.1.1 (xDD g _) hS i hat (xcl_at h8) kf hkN (hts _ hw) (fun _ h9 => h9) hfin (by rw [xty_ok h8 kf hkN, xRef_int hr]) rfl rfl (by simp [hkN]) hd (fun H1 locs1 hP1 _ hS1 => ?_)
  refine k p e s m args below meth c H1 ls locs1 C ⟨⟨?_, ?_⟩, hI.2⟩ hS1 hl
  · rw [xfs_int v hr] at hP1
    have e := xW_upd (g := g) (hp := (sh, rf, M)) (hp' := (sh, rf, up2 M i (kf : Int) v)) hs rfl (fun j _ => rfl) (fun j hj => up2_o M _ _ hj)
    rw [← e]
    exact hP1
  · intro a b
    show -2147483648 ≤ up2 M i (kf : Int) v a b ∧ up2 M i (kf : Int) v a b ≤ 2147483647
    unfold up2
    split
    · exact hv
    · exact hI.1.2 a b
end XROWS2
