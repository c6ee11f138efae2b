/-! the locals by their places -/
def xLp (nL : Nat) (L : List (Option Value)) : List (Nat × Value) := (List.range nL).filterMap (fun i => (L.getD i none).map (fun v => (i, v)))
def xL (ls : Array Slot) (nL : Nat) (L : List (Option Value)) : Prop := lv_has ls nL (xLp nL L)
theorem xLp_mem {nL : Nat} {L : List (Option Value)} {i : Nat} {v : Value} (hi : i < nL) (h : L[i]? = some (some v)) : (i, v) ∈ xLp nL L := by
  refine List.mem_filterMap.mpr ⟨i, List.mem_range.mpr hi, ?_⟩
  simp [List.getD, h]
theorem xLp_of {nL : Nat} {L : List (Option Value)} {q : Nat × Value} (h : q ∈ xLp nL L) : q.1 < nL ∧ L[q.1]? = some (some q.2) := by
  obtain ⟨i, h1, h2⟩ := List.mem_filterMap.mp h
  cases e : L.getD i none with
  | none => rw [e] at h2; cases h2
  | some v =>
    rw [e] at h2
    cases h2
    refine ⟨List.mem_range.mp h1, ?_⟩
    cases e2 : L[i]? with
    | none => simp [List.getD, e2] at e
    | some w => simp [List.getD, e2] at e; rw [e]
theorem xL_at {ls : Array Slot} {nL : Nat} {L : List (Option Value)} (h : xL ls nL L) {i : Nat} {v : Value} (hi : i < nL) (hv : L[i]? = some (some v)) : ls[i]? = some (.val v) := h.2.2 (i, v) (xLp_mem hi hv)
/-- no long begins just ahead of place i -/
def xok (L : List (Option Value)) (i : Nat) : Bool := match i with
  | 0 => true
  | j + 1 => match L.getD j none with
    | some w => w.category == 1
    | none => true
theorem xok_spec {L : List (Option Value)} {i j : Nat} {w : Value} (h : xok L i = true) (e : j + 1 = i) (hv : L[j]? = some (some w)) : w.category = 1 := by
  subst e
  simp only [xok, List.getD, hv, Option.getD_some] at h
  exact by simpa using h
theorem xL_store1 {ls : Array Slot} {nL i : Nat} {L : List (Option Value)} {v : Value} (hk : xok L i = true) (h : lv_has ls nL ((i, v) :: (xLp nL L).filter (fun q => !(q.1 == i) && !(q.1 + 1 == i && q.2.category == 2)))) : xL ls nL (L.set i (some v)) := by
  refine ⟨h.1, h.2.1, fun q hq => ?_⟩
  obtain ⟨h1, h2⟩ := xLp_of hq
  apply h.2.2
  rw [List.getElem?_set] at h2
  by_cases e : i = q.1
  · rw [if_pos e] at h2
    split at h2
    · simp at h2
      exact List.mem_cons.mpr (Or.inl (by rw [e, h2]))
    · cases h2
  · rw [if_neg e] at h2
    refine List.mem_cons.mpr (Or.inr (List.mem_filter.mpr ⟨xLp_mem h1 h2, ?_⟩))
    have e' : ¬ q.1 = i := fun z => e z.symm
    by_cases e2 : q.1 + 1 = i
    · have := xok_spec hk e2 h2
      simp [e', this]
    · simp [e', e2]
theorem xL_store2 {ls : Array Slot} {nL i : Nat} {L : List (Option Value)} {v : Value} (hk : xok L i = true) (h : lv_has ls nL ((i, v) :: (xLp nL L).filter (fun q => !(q.1 == i) && (!(q.1 == i + 1) && !(q.1 + 1 == i && q.2.category == 2))))) : xL ls nL ((L.set i (some v)).set (i + 1) none) := by
  refine ⟨h.1, h.2.1, fun q hq => ?_⟩
  obtain ⟨h1, h2⟩ := xLp_of hq
  apply h.2.2
  rw [List.getElem?_set] at h2
  by_cases e0 : i + 1 = q.1
  · rw [if_pos e0] at h2
    split at h2
    · cases h2
    · cases h2
  rw [if_neg e0, List.getElem?_set] at h2
  by_cases e : i = q.1
  · rw [if_pos e] at h2
    split at h2
    · simp at h2
      exact List.mem_cons.mpr (Or.inl (by rw [e, h2]))
    · cases h2
  · rw [if_neg e] at h2
    refine List.mem_cons.mpr (Or.inr (List.mem_filter.mpr ⟨xLp_mem h1 h2, ?_⟩))
    have e' : ¬ q.1 = i := fun z => e z.symm
    have e0' : ¬ q.1 = i + 1 := fun z => e0 z.symm
    by_cases e2 : q.1 + 1 = i
    · have := xok_spec hk e2 h2
      simp [e', e0', this]
    · simp [e', e0', e2]
/-- the locals of an entry -/
def xargs : List Value → List (Option Value)
  | [] => []
  | v :: vs => if v.category = 2 then some v :: none :: xargs vs else some v :: xargs vs
theorem xargs_mem : ∀ (vs : List Value) (k : Nat) {i : Nat} {v : Value}, (xargs vs)[i]? = some (some v) → (k + i, v) ∈ lv_args k vs
  | [], _, i, v, h => by simp [xargs] at h
  | w :: vs, k, i, v, h => by
    by_cases hc : w.category = 2
    · simp only [xargs, hc, if_true] at h
      simp only [lv_args, hc, if_true]
      match i, h with
      | 0, h => simp at h; subst h; exact List.mem_cons_self
      | 1, h => simp at h
      | i + 2, h =>
        have h2 : (xargs vs)[i]? = some (some v) := by simpa using h
        have := xargs_mem vs (k + 2) h2
        rw [show k + (i + 2) = k + 2 + i by omega]
        exact List.mem_cons_of_mem _ this
    · simp only [xargs, hc, if_false] at h
      simp only [lv_args, hc, if_false]
      match i, h with
      | 0, h => simp at h; subst h; exact List.mem_cons_self
      | i + 1, h =>
        have h2 : (xargs vs)[i]? = some (some v) := by simpa using h
        have := xargs_mem vs (k + 1) h2
        rw [show k + (i + 1) = k + 1 + i by omega]
        exact List.mem_cons_of_mem _ this
theorem xL_entry (vs : List Value) {n : Nat} (h : (lg_sl vs).length ≤ n) (L : List (Option Value)) (hL : xargs vs ++ List.replicate (n - (xargs vs).length) none = L) : xL ((lg_sl vs ++ List.replicate (n - (lg_sl vs).length) Slot.unset).toArray) n L := by
  obtain ⟨h1, h2, h3⟩ := lv_entry vs h
  refine ⟨h1, h2, fun q hq => ?_⟩
  obtain ⟨q1, q2⟩ := xLp_of hq
  apply h3
  rw [← hL] at q2
  by_cases hl : q.1 < (xargs vs).length
  · rw [List.getElem?_append_left hl] at q2
    have := xargs_mem vs 0 q2
    rwa [Nat.zero_add] at this
  · rw [List.getElem?_append_right (Nat.le_of_not_lt hl)] at q2
    rw [List.getElem?_replicate] at q2
    split at q2
    · cases q2
    · cases q2
/-! what stands outside the world: five texts, two statics -/
def xA (g : GG) : Nat → Prop := fun q => gB g ≤ q
def xlen : List Nat := [5, 5, 4, 8, 4]
def xbyt : List (List Int32) := [[112, 108, 97, 105, 110], [112, 114, 111, 117, 100], [119, 105, 115, 101], [99, 97, 114, 101, 108, 101, 115, 115], [103, 97, 109, 101]]
def xZ (g : GG) (U : State) (H : Heap) : Prop :=
  vk_S 5 xlen xbyt (gK g) (gV g) (xA g) U H ∧ va_Z "java/lang/String" "COMPACT_STRINGS" "Z" (.int 1) (xA g) U H ∧ va_Zq "jdk/internal/util/Preconditions" "SIOOBE_FORMATTER" "Ljava/util/function/BiFunction;" (xA g) U H
def xNs : List (String × Nat × MethodName × String) := [(RX6, 11, yX5_init, RX6), (RX5, 11, yX4_init, RX6), (RX6, 23, yX1_init, RX6), (RX6, 47, yX3_init, RX6), (RX6, 54, yX0_init, RX6), (RX6, 69, yX2_init, RX6)]
/-- what the tables say beside the words: texts, nest mates, arrays of references -/
def xR (g : GG) (U : State) : Prop := (vk_R RX5 104 "plain" (gK g 0) U ∧ vk_R RX5 110 "proud" (gK g 1) U ∧ vk_R RX5 112 "wise" (gK g 2) U ∧ vk_R RX5 114 "careless" (gK g 3) U ∧ vk_R RX5 116 "game" (gK g 4) U) ∧ (∀ q ∈ xNs, va_Nw (.methodLinkNest q.1 q.2.1 q.2.2.1 q.2.2.2) U) ∧ va_AO RX1 U ∧ va_AO RX2 U
theorem xZ.moved {g : GG} {u U : State} {H : Heap} (hvm : u.vm.Alike U.vm) (h : xZ g u H) : xZ g U H := ⟨h.1.moved hvm, h.2.1.moved hvm, h.2.2.moved hvm⟩
theorem xZ.kept {g : GG} {U : State} {H H1 : Heap} (h : xZ g U H) (hq : ∀ a : Nat, a < H.size → ¬ xA g a → H1[a]? = H[a]?) : xZ g U H1 := ⟨h.1.kept hq, h.2.1.kept hq, h.2.2.kept hq⟩
theorem xR.same {g : GG} {u U : State} (hv : U.vm = u.vm) (h : xR g u) : xR g U :=
  ⟨⟨h.1.1.same hv, h.1.2.1.same hv, h.1.2.2.1.same hv, h.1.2.2.2.1.same hv, h.1.2.2.2.2.same hv⟩, fun q hq => (h.2.1 q hq).same rfl hv.symm, h.2.2.1.moved (by rw [hv]; exact Vm.Alike.refl _), h.2.2.2.moved (by rw [hv]; exact Vm.Alike.refl _)⟩
theorem xR.warm {g : GG} {s U : State} (hW : s.WarmedH U.vm) (h : xR g s) : xR g U :=
  ⟨⟨h.1.1.warm hW, h.1.2.1.warm hW, h.1.2.2.1.warm hW, h.1.2.2.2.1.warm hW, h.1.2.2.2.2.warm hW⟩, fun q hq => (h.2.1 q hq).warmM hW, h.2.2.1.moved hW.alike, h.2.2.2.moved hW.alike⟩
/-! what a walk of a method stands in -/
def XC (g : GG) (T : XT) (p : Program) (s : State) (m : MethodId) (args : Array Value) (meth : Method) (c : Code) : Prop :=
  p.tables.exec = Jvm.exec ∧ c.code = T.2.1 ∧ c.maxLocals = T.2.2.1 ∧ s.vm.findClass T.1.cls = some m.cls ∧ (∀ w ∈ xG, w.before args s = true) ∧ meth.sig.returnType = T.2.2.2 ∧ meth.locks = false ∧ va_K (gD g) xcl (xtys g) s ∧ gB g ≤ s.heap.size ∧ meth.name = T.1.name ∧ xZ g s s.heap ∧ xR g s
/-- what a method leaves (mc: how many cells it made, each of them in the world) -/
def xQ (g : GG) (mc : Nat) (Q : Option Value → Hp → Prop) : Array Value → State → Outcome → State → Prop := fun _ st oc t => (∃ (v : Option Value) (hp : Hp), oc = .returned v ∧ Q v hp ∧ xI g hp t.heap ∧ st.heap.size + mc = gB g + hp.1.length) ∧ va_F (xA g) st t
def xroom (d : Nat) (mc ms : Nat) : Room := { frames := d, cells := mc, slots := ms, locals := 35 * d }
/-- the room of a walk: its depth, what it may make (cells, slots), what it has made -/
abbrev XK : Type := Nat × (Nat × Nat) × (Nat × Nat)
def X (g : GG) (T : XT) (K : XK) (pc : Nat) (L : List (Option Value)) (st : List Value) (hp : Hp) (Q : Option Value → Hp → Prop) : Prop :=
  ∀ (p : Program) (e : Env) (s : State) (m : MethodId) (args : Array Value) (below : List Frame) (meth : Method) (c : Code) (H : Heap) (ls : Array Slot) (locs : List Loc),
    XC g T p s m args meth c → (xI g hp H ∧ s.heap.size + K.2.2.1 = gB g + hp.1.length) → va_S (xA g) s.heap H locs → xL ls T.2.2.1 L →
    W p (gL g) e (xroom K.1 K.2.1.1 K.2.1.2) s m args below meth c H locs K.2.2.1 K.2.2.2 (MQ below (xQ g K.2.1.1 Q) args s K.2.1.1 K.2.1.2 (xA g)) (F0 m pc ls st)
def xPc (g : GG) (hp : Hp) (U : State) : Prop := xI g hp U.heap ∧ U.heap.size = gB g + hp.1.length ∧ va_K (gD g) xcl (xtys g) U ∧ xZ g U U.heap ∧ xR g U
/-- a contract: from args and the world hp -/
def Con (g : GG) (T : XT) (d mc ms : Nat) (args : List Value) (hp : Hp) (Q : Option Value → Hp → Prop) : Prop :=
  Met (gL g) T.1 (xws T) (xroom d mc ms) (va_Pc args (xPc g hp)) (xQ g mc Q) mc ms (xA g)
theorem Con.of {g : GG} {T : XT} {d mc ms : Nat} {args : List Value} {hp : Hp} {Q : Option Value → Hp → Prop} (L : List (Option Value)) (hn : plainName T.1.cls = true) (hL : xargs args ++ List.replicate (T.2.2.1 - (xargs args).length) none = L) (hlen : (lg_sl args).length ≤ T.2.2.1)
    (h : X g T (d, (mc, ms), (0, 0)) 0 L [] hp Q) : Con g T d mc ms args hp Q := by
  refine Met.ofW (cc := T.2.1) (maxL := T.2.2.1) (ret := T.2.2.2) hn rfl ?_
  intro p e s m args' below meth c s₁ B hml hv
  obtain ⟨rfl, hI, hz, hK, hZ, hR⟩ := hv
  have hts := atoms_spec (ws := xws T) B.pre
  have hown : s.vm.findClass T.1.cls = some m.cls := findClass_of_methodNamed B.named
  rw [lg_entry_eq]
  exact h p e s m args.toArray below meth c s.heap _ [] ⟨B.exec, B.bytes, hml, hown, fun w hw => hts w (List.mem_cons_of_mem _ hw), B.returns, B.notSynchronized, hK, by rw [hz]; exact Nat.le_add_right _ _, (name_of_methodNamed B.named B.method).1, hZ, hR⟩ ⟨hI, hz⟩ va_S.rf (xL_entry args hlen L hL)
theorem W.sized {p : Program} {l : Launch} {e : Env} {R : Room} {s : State} {m : MethodId} {args : Array Value} {below : List Frame} {meth : Method} {c : Code} {H : Heap} {locs : List Loc} {cells slots : Nat} {Q : State → Prop} {g : JFrame} (k : H.size ≤ s.heap.size + cells → W p l e R s m args below meth c H locs cells slots Q g) : W p l e R s m args below meth c H locs cells slots Q g :=
  fun T hT X => k (by rw [← hT]; exact X.heapSize) T hT X
theorem xlow {g : GG} {hp : Hp} {s : State} {H : Heap} {locs : List Loc} {k : Nat} (hI : xI g hp H) (hz : s.heap.size + k = gB g + hp.1.length) (hB : gB g ≤ s.heap.size) (hS : va_S (xA g) s.heap H locs) : s.heap.size + k ≤ H.size := by
  by_cases h : hp.1.length = 0
  · have := hS.1
    omega
  · have h1 := hI.1 (hp.1.length - 1) _ (by rw [xW_get, if_pos (by omega)])
    have h2 := h1.lt
    have h3 : gB g + (hp.1.length - 1) < H.size := h2
    omega
