/-! THE CLAIM OUT OF ONE WALK OF THE LAW'S BODY. Your part is whole_start (and what it stands on); all else here is the same for every law, but numbers. -/
def R_law : String := "LoseLeagueLaw"
def lw_P (b : Addr) (xs : List Int32) (args : Array Value) (s : State) : Prop := args = #[.ref b] ∧ s.IntsAt b xs ∧ xs.length ≤ 2560 ∧ (Jvm.Cond.and given_1 narrow_1).before args s = true
def lw_Q (_ : Array Value) (s : State) (o : Outcome) (t : State) : Prop := o = .returned (some (.int 1)) ∧ Framed s o t [] 600000 7302250
def lw_Z (below : List Frame) (a : Array Value) (s : State) : State → Prop := fun t => ∃ o, t.status = .running ∧ Ended t below o ∧ lw_Q a s o t
/-- the law's own end, with 1 on the stack, nothing written that was there before, its room as the claim has it -/
theorem lw_ret {p : Program} {l : Launch} {e : Env} {s : State} {m : MethodId} {below : List Frame} {meth : Method} {c : Code} {b : Nat} (hx : p.tables.exec = Jvm.exec) (hb : c.code = code) (hr : meth.sig.returnType = ret) (hlocks : meth.locks = false) {pc : Nat} {H : Heap} {ls : Array Slot} (hdg : decode code pc = .ok (.ireturn, 1)) : W p l e room_1 s m #[Value.ref b] below meth c H [] 600000 7302250 (lw_Z below #[Value.ref b] s) (F0 m pc ls [.int 1]) := by
  intro T hT X
  obtain ⟨fs, hret, hrun, hended, hW, hframe⟩ := X.leave (v := some (.int 1)) (hlocks := hlocks) (fun h => by rw [hr] at h; cases h)
  have hmeth' : T.vm.method? m = some meth := X.method'
  refine ⟨T.setFrames fs, ?_, .returned (some (.int 1)), hrun, hended, rfl, ⟨_, rfl⟩, hW, hframe⟩
  jvm_step X.here [X.here.top, hx, hb, hdg, hmeth', hr, ret, narrow_b1]
  (try refine ⟨rfl, ?_⟩); (try refine ⟨rfl, ?_⟩)
  first | (intro acts; rw [hret _ acts rfl rfl rfl]) | rw [hret _ _ rfl rfl rfl]
  exact Steps.refl _
/-- what holds at the law's entry: the machine, the code, the tables' words (any of lw_tbl by 'hts w (by decide +kernel)'), the script of L ints xs at the cell b, what the Statement gives of the start (any of its parts by flat_of_before) -/
def lw_At (p : Program) (s : State) (m : MethodId) (meth : Method) (c : Code) (b L : Nat) (xs : Nat → Int32) : Prop :=
  p.tables.exec = Jvm.exec ∧ c.code = code ∧ meth.sig.returnType = ret ∧ c.maxLocals = 4 ∧ s.vm.findClass R_law = some m.cls ∧ (∀ w ∈ lw_tbl, w.before #[Value.ref b] s = true) ∧ va_X b L xs s s.heap ∧ b < s.heap.size ∧ meth.locks = false ∧ (Jvm.Cond.and given_1 narrow_1).before #[Value.ref b] s = true
/-! ===== the law's own walk ===== -/
def LC (g : GG) (p : Program) (s : State) (m : MethodId) (meth : Method) (c : Code) (b L : Nat) (xs : Nat → Int32) : Prop := lw_At p s m meth c b L xs ∧ L ≤ 2560 ∧ va_K (gD g) xcl (xtys g) s ∧ gB g = s.heap.size ∧ xZ g s s.heap ∧ xR g s ∧ (∀ w ∈ xG, w.before #[Value.ref b] s = true)
def Y (g : GG) (p : Program) (e : Env) (s : State) (m : MethodId) (below : List Frame) (meth : Method) (c : Code) (b : Nat) (pc : Nat) (Lc : List (Option Value)) (st : List Value) (hp : Hp) (cells slots : Nat) : Prop :=
  ∀ (H : Heap) (ls : Array Slot) (locs : List Loc), (xI g hp H ∧ s.heap.size + cells = gB g + hp.1.length) → va_S (xA g) s.heap H locs → xL ls 4 Lc → W p (gL g) e room_1 s m #[Value.ref b] below meth c H locs cells slots (lw_Z below #[Value.ref b] s) (F0 m pc ls st)
section LAWROWS
variable {g : GG} {p : Program} {e : Env} {s : State} {m : MethodId} {below : List Frame} {meth : Method} {c : Code} {b L : Nat} {xs : Nat → Int32} {pc : Nat} {Lc : List (Option Value)} {st : List Value} {hp : Hp} {cells slots : Nat} {x y : Int}
theorem y_iconst (C : LC g p s m meth c b L xs) (n : Nat) {v : Int} (hd : decode code pc = .ok (.iconst v, 1)) (hn : pc + 1 = n) (k : Y g p e s m below meth c b n Lc (iv v :: st) hp cells slots) : Y g p e s m below meth c b pc Lc st hp cells slots := by
  subst hn
  intro H ls locs hI hS hl
  exact lv_iconst C.1.1 C.1.2.1 hd rfl (k H ls locs hI hS hl)
theorem y_bipush (C : LC g p s m meth c b L xs) (n : Nat) {v : Int} (hd : decode code pc = .ok (.bipush v, 2)) (hn : pc + 2 = n) (hv : -128 ≤ v ∧ v ≤ 127) (k : Y g p e s m below meth c b n Lc (iv v :: st) hp cells slots) : Y g p e s m below meth c b pc Lc st hp cells slots := by
  subst hn
  intro H ls locs hI hS hl
  exact lv_bipush C.1.1 C.1.2.1 hd (i8 hv) (k H ls locs hI hS hl)
theorem y_iload (C : LC g p s m meth c b L xs) (n : Nat) {k : Fin 4} (i : Nat) (hd : decode code pc = .ok (.iload_n k, 1)) (hn : pc + 1 = n) (hi : (k : Nat) = i) (hb : i < 4) (hL : Lc[i]? = some (some (iv x))) (kk : Y g p e s m below meth c b n Lc (iv x :: st) hp cells slots) : Y g p e s m below meth c b pc Lc st hp cells slots := by
  subst hn
  intro H ls locs hI hS hl
  exact lv_iload_n C.1.1 C.1.2.1 hd hi (xL_at hl hb hL) (kk H ls locs hI hS hl)
theorem y_aload (C : LC g p s m meth c b L xs) (n : Nat) {k : Fin 4} (i : Nat) {a : Nat} (hd : decode code pc = .ok (.aload_n k, 1)) (hn : pc + 1 = n) (hi : (k : Nat) = i) (hb : i < 4) (hL : Lc[i]? = some (some (.ref a))) (kk : Y g p e s m below meth c b n Lc (.ref a :: st) hp cells slots) : Y g p e s m below meth c b pc Lc st hp cells slots := by
  subst hn
  intro H ls locs hI hS hl
  exact lv_aload_n C.1.1 C.1.2.1 hd hi (xL_at hl hb hL) (kk H ls locs hI hS hl)
theorem y_istore (C : LC g p s m meth c b L xs) (n : Nat) {k : Fin 4} (i : Nat) (L' : List (Option Value)) (hd : decode code pc = .ok (.istore_n k, 1)) (hn : pc + 1 = n) (hi : (k : Nat) = i) (hb : i < 4) (ho : xok Lc i = true) (hL : Lc.set i (some (iv x)) = L') (kk : Y g p e s m below meth c b n L' st hp cells slots) : Y g p e s m below meth c b pc Lc (iv x :: st) hp cells slots := by
  subst hn; subst hL
  intro H ls locs hI hS hl
  exact lv_istore_n C.1.1 C.1.2.1 hd hi hl hb rfl (fun ls' h => kk H ls' locs hI hS (xL_store1 ho h))
theorem y_astore (C : LC g p s m meth c b L xs) (n : Nat) {k : Fin 4} (i : Nat) {a : Nat} (L' : List (Option Value)) (hd : decode code pc = .ok (.astore_n k, 1)) (hn : pc + 1 = n) (hi : (k : Nat) = i) (hb : i < 4) (ho : xok Lc i = true) (hL : Lc.set i (some (rv g a)) = L') (kk : Y g p e s m below meth c b n L' st hp cells slots) : Y g p e s m below meth c b pc Lc (rv g a :: st) hp cells slots := by
  subst hn; subst hL
  intro H ls locs hI hS hl
  exact lv_astore_n C.1.1 C.1.2.1 hd hi hl hb rfl (fun ls' h => kk H ls' locs hI hS (xL_store1 ho h))
theorem y_iinc (C : LC g p s m meth c b L xs) (n : Nat) {i : Nat} {v : Int} (L' : List (Option Value)) (hd : decode code pc = .ok (.iinc i v, 3)) (hn : pc + 3 = n) (hb : i < 4) (ho : xok Lc i = true) (hv : Lc[i]? = some (some (iv x))) (hL : Lc.set i (some (iv (x + v))) = L') (kk : Y g p e s m below meth c b n L' st hp cells slots) : Y g p e s m below meth c b pc Lc st hp cells slots := by
  subst hn; subst hL
  intro H ls locs hI hS hl
  obtain ⟨j, hj⟩ := List.getElem?_of_mem (xLp_mem hb hv)
  exact lv_iinc C.1.1 C.1.2.1 hd hl hj (v := Int32.ofInt (x + v)) (by rw [Int32.ofInt_add]) hb rfl (fun ls' h => kk H ls' locs hI hS (xL_store1 ho h))
theorem y_goto (C : LC g p s m meth c b L xs) (t : Nat) {off : Int} (hd : decode code pc = .ok (.goto off, 3)) (ht : (pc : Int) + off = (t : Int)) (k : Y g p e s m below meth c b t Lc st hp cells slots) : Y g p e s m below meth c b pc Lc st hp cells slots := by
  intro H ls locs hI hS hl
  exact lv_goto C.1.1 C.1.2.1 hd ht (k H ls locs hI hS hl)
theorem y_dup (C : LC g p s m meth c b L xs) (n : Nat) {v : Value} (hd : decode code pc = .ok (.dup, 1)) (hn : pc + 1 = n) (hv : v.category = 1) (k : Y g p e s m below meth c b n Lc (v :: v :: st) hp cells slots) : Y g p e s m below meth c b pc Lc (v :: st) hp cells slots := by
  subst hn
  intro H ls locs hI hS hl
  exact lv_dup C.1.1 C.1.2.1 hd hv (k H ls locs hI hS hl)
theorem ybA (C : LC g p s m meth c b L xs) : ¬ xA g b := by
  have h1 := C.2.2.2.1
  have h2 := C.1.2.2.2.2.2.2.2.1
  show ¬ gB g ≤ b
  omega
/-- an int of the script on the stack -/
theorem y_sld (C : LC g p s m meth c b L xs) (n : Nat) {j : Nat} (hd : decode code pc = .ok (.iaload, 1)) (hn : pc + 1 = n) (hx : x = (j : Int)) (hj : j < L) (k : Y g p e s m below meth c b n Lc (iv (xs j).toInt :: st) hp cells slots) : Y g p e s m below meth c b pc Lc (iv x :: .ref b :: st) hp cells slots := by
  subst hn; subst hx
  intro H ls locs hI hS hl
  have k := k H ls locs hI hS hl
  have hL := C.2.1
  have e : iv (xs j).toInt = .int (xs (Int32.ofInt (j : Int)).toNatClampNeg) := by
    rw [iClamp (n := L) (by omega), Int.toNat_natCast]
    unfold iv; rw [Int32.ofInt_toInt]
  rw [e] at k
  exact va_sld C.1.1 C.1.2.1 C.1.2.2.2.2.2.2.1 C.1.2.2.2.2.2.2.2.1 (ybA C) hS (iIn (by omega)) hd k
theorem y_slen (C : LC g p s m meth c b L xs) (n : Nat) (hd : decode code pc = .ok (.arraylength, 1)) (hn : pc + 1 = n) (k : Y g p e s m below meth c b n Lc (iv (L : Int) :: st) hp cells slots) : Y g p e s m below meth c b pc Lc (.ref b :: st) hp cells slots := by
  subst hn
  intro H ls locs hI hS hl
  have k := k H ls locs hI hS hl
  unfold iv at k
  rw [Int32.ofInt_eq_ofNat] at k
  exact va_slen C.1.1 C.1.2.1 C.1.2.2.2.2.2.2.1 C.1.2.2.2.2.2.2.2.1 (ybA C) hS hd k
theorem y_isub (C : LC g p s m meth c b L xs) (n : Nat) (hd : decode code pc = .ok (.isub, 1)) (hn : pc + 1 = n) (k : Y g p e s m below meth c b n Lc (iv (x - y) :: st) hp cells slots) : Y g p e s m below meth c b pc Lc (iv y :: iv x :: st) hp cells slots := by
  subst hn
  intro H ls locs hI hS hl
  have k := k H ls locs hI hS hl
  unfold iv at k ⊢
  rw [Int32.ofInt_sub] at k
  exact lv_isub C.1.1 C.1.2.1 hd k
theorem y_iadd (C : LC g p s m meth c b L xs) (n : Nat) (hd : decode code pc = .ok (.iadd, 1)) (hn : pc + 1 = n) (k : Y g p e s m below meth c b n Lc (iv (x + y) :: st) hp cells slots) : Y g p e s m below meth c b pc Lc (iv y :: iv x :: st) hp cells slots := by
  subst hn
  intro H ls locs hI hS hl
  have k := k H ls locs hI hS hl
  unfold iv at k ⊢
  rw [Int32.ofInt_add] at k
  exact lv_iadd C.1.1 C.1.2.1 hd k
theorem y_iand (C : LC g p s m meth c b L xs) (n : Nat) (z : Int) (hd : decode code pc = .ok (.iand, 1)) (hn : pc + 1 = n) (hz : Int32.ofInt x &&& Int32.ofInt y = Int32.ofInt z) (k : Y g p e s m below meth c b n Lc (iv z :: st) hp cells slots) : Y g p e s m below meth c b pc Lc (iv y :: iv x :: st) hp cells slots := by
  subst hn
  intro H ls locs hI hS hl
  have k := k H ls locs hI hS hl
  unfold iv at k ⊢
  rw [← hz] at k
  exact lv_iand C.1.1 C.1.2.1 hd k
theorem y_gt (C : LC g p s m meth c b L xs) (t n : Nat) {off : Int} (hd : decode code pc = .ok (.if_icmp .gt off, 3)) (ht : (pc : Int) + off = (t : Int)) (hn : pc + 3 = n) (hr : -2147483648 ≤ x ∧ x ≤ 2147483647 ∧ -2147483648 ≤ y ∧ y ≤ 2147483647) (kt : y < x → Y g p e s m below meth c b t Lc st hp cells slots) (kf : x ≤ y → Y g p e s m below meth c b n Lc st hp cells slots) : Y g p e s m below meth c b pc Lc (iv y :: iv x :: st) hp cells slots := by
  subst hn
  intro H ls locs hI hS hl
  have hLt := iLt (x := y) (y := x) (by omega)
  refine lv_icmp_gt C.1.1 C.1.2.1 hd ht (fun h => kt ?_ H ls locs hI hS hl) (fun h => kf ?_ H ls locs hI hS hl)
  · exact hLt.mp h
  · exact Decidable.byContradiction fun q => h (hLt.mpr (by omega))
/-- both answer alike -/
theorem y_eq (C : LC g p s m meth c b L xs) (t : Nat) {off : Int} (hd : decode code pc = .ok (.if_icmp .eq off, 3)) (ht : (pc : Int) + off = (t : Int)) (k : Y g p e s m below meth c b t Lc st hp cells slots) : Y g p e s m below meth c b pc Lc (iv x :: iv x :: st) hp cells slots := by
  intro H ls locs hI hS hl
  exact lv_icmp_eq C.1.1 C.1.2.1 hd ht (fun _ => k H ls locs hI hS hl) (fun h => absurd rfl h)
theorem y_eqJ (C : LC g p s m meth c b L xs) (t : Nat) {off : Int} (hd : decode code pc = .ok (.lcmp, 1)) (hd2 : decode code (pc + 1) = .ok (.ifCond .eq off, 3)) (ht : ((pc + 1 : Nat) : Int) + off = (t : Int)) (k : Y g p e s m below meth c b t Lc st hp cells slots) : Y g p e s m below meth c b pc Lc (jv x :: jv x :: st) hp cells slots := by
  intro H ls locs hI hS hl
  have e0 : lg_cmp (Int64.ofInt x) (Int64.ofInt x) = 0 := by
    unfold lg_cmp
    rw [if_neg (fun h => by have h : Int64.ofInt x < Int64.ofInt x := h; rw [Int64.lt_iff_toInt_lt] at h; omega), if_pos rfl]
  refine W.lcmp C.1.1 C.1.2.1 hd ?_
  rw [e0]
  exact lv_if_eq C.1.1 C.1.2.1 hd2 ht (fun _ => k H ls locs hI hS hl) (fun h => absurd rfl h)
theorem y_ret (C : LC g p s m meth c b L xs) (hd : decode code pc = .ok (.ireturn, 1)) (hc : cells ≤ 600000 ∧ slots ≤ 7302250) : Y g p e s m below meth c b pc Lc [iv 1] hp cells slots := by
  intro H ls locs hI hS hl
  refine va_forget (fun q hq => ?_) ?_
  · have h1 := hS.2.2 q hq
    have h2 := C.2.2.2.1
    have h1 : gB g ≤ q.base := h1
    omega
  · refine W.widen (k := 600000) (n := 7302250) hc.1 hc.2 ?_
    exact lw_ret C.1.1 C.1.2.1 C.1.2.2.1 C.1.2.2.2.2.2.2.2.2.1 hd
theorem ypre (C : LC g p s m meth c b L xs) {H : Heap} {locs : List Loc} (hI : xI g hp H) (hz : H.size = gB g + hp.1.length) (hS : va_S (xA g) s.heap H locs) (av : List Value) : ∀ U : State, U.heap = H → s.WarmedH U.vm → va_Pc av (xPc g hp) av.toArray U := by
  obtain ⟨-, -, hK, hB, hZ, hR, -⟩ := C
  intro U hU hW
  refine ⟨rfl, by rw [hU]; exact hI, by rw [hU]; exact hz, va_K.moved hW.alike hK, ?_, hR.warm hW⟩
  refine xZ.moved hW.alike (hZ.kept fun a h1 h2 => ?_)
  rw [hU]
  exact hS.2.1 a h1 h2
theorem y_call (C : LC g p s m meth c b L xs) (n : Nat) {T2 : XT} {d idx i ci na : Nat} (As : List Value) {stk : List Value} {Q2 : Option Value → Hp → Prop} (hc : Con g T2 d 0 0 (rv g i :: As) hp Q2) (hM : MV T2 na) (hlink : Cond.methodLink RL idx T2.1 ∈ xG) (hd : decode code pc = .ok (.invokevirtual idx, 3)) (hn : pc + 3 = n)
    (hs : hp.1[i]? = some (.inl ci)) (hci : ci < 8 ∧ xC ci = T2.1.cls) (hlen : As.length = na) (hstk : stk = As.reverse ++ rv g i :: st) (hcat : (st.map fun v => v.category).sum ≤ 8) (hroom : d + 1 ≤ 11) (hcs : cells ≤ 600000 ∧ slots ≤ 7302250)
    (k : ∀ (v : Option Value) (hp' : Hp), Q2 v hp' → Y g p e s m below meth c b n Lc (v.toList ++ st) hp' cells slots) : Y g p e s m below meth c b pc Lc stk hp cells slots := by
  subst hn
  intro H ls locs hI hS hl
  obtain ⟨⟨hx, hb, hr, hml, hown0, hts0, hX, hbl, hlk, hgv⟩, hL, hK, hB, hZ, hR, hts⟩ := id C
  have hown : s.vm.findClass RL = some m.cls := hown0
  refine W.sized (fun hup => ?_)
  have hlo := xlow hI.1 hI.2 (by omega) hS
  have hHz : H.size = gB g + hp.1.length := by omega
  obtain ⟨⟨m1, m2, m3, m4⟩, m5, m6⟩ := hM
  have hat := xW_at (g := g) (hp := hp) hs
  have hrecv := va_recv hK hI.1.1 (xcl_at hci.1) hat
  rw [show (xC ci, xT ci, xN ci).1 = T2.1.cls from hci.2] at hrecv
  refine x_ofRun (va_runV (As := As) (rest := st) (C := T2.1.cls) (Ts := xG) (nL := 4) (bytes := T2.2.1) (maxL := T2.2.2.1) (ret := T2.2.2.2) ⟨hx, hb, hml, hown, hts⟩ hc ⟨callB_of na hts (xgood m1) rfl rfl rfl (hts _ m2) (hts _ hlink) m3 ⟨hroom, ?_⟩, hts _ m5, hts _ m6⟩ ⟨xblind, hrecv, ypre C hI.1 hHz hS _⟩ rfl hlen hl.1 hstk (lv_room hcat) hd ⟨hcs.1, hcs.2⟩) hS (fun v hp' H1 locs1 hq hi hs1 => k v hp' hq H1 ls locs1 ⟨hi.1, ?_⟩ hs1 hl)
  · show 8 + (T2.2.2.1 + 11) + 35 * d ≤ 388
    omega
  · have := hi.2
    omega
theorem y_init (C : LC g p s m meth c b L xs) (n : Nat) {T2 : XT} {d mc ms idx i : Nat} {Q2 : Option Value → Hp → Prop} (hc : Con g T2 d mc ms [rv g i] hp Q2) (hM : MI T2 0) (hlink : Cond.methodLink RL idx T2.1 ∈ xG) (hd : decode code pc = .ok (.invokespecial idx, 3)) (hn : pc + 3 = n) (hcat : (st.map fun v => v.category).sum ≤ 8) (hroom : d + 1 ≤ 11) (hcs : cells + mc ≤ 600000 ∧ slots + ms ≤ 7302250)
    (k : ∀ (v : Option Value) (hp' : Hp), Q2 v hp' → Y g p e s m below meth c b n Lc (v.toList ++ st) hp' (cells + mc) (slots + ms)) : Y g p e s m below meth c b pc Lc (rv g i :: st) hp cells slots := by
  subst hn
  intro H ls locs hI hS hl
  obtain ⟨⟨hx, hb, hr, hml, hown0, hts0, hX, hbl, hlk, hgv⟩, hL, hK, hB, hZ, hR, hts⟩ := id C
  have hown : s.vm.findClass RL = some m.cls := hown0
  refine W.sized (fun hup => ?_)
  have hlo := xlow hI.1 hI.2 (by omega) hS
  have hHz : H.size = gB g + hp.1.length := by omega
  obtain ⟨y2, c2, n2, r2⟩ := T2
  obtain ⟨⟨m1, m2, m3, m4⟩, m5, m6, m7⟩ := hM
  have m7 : r2 = none := m7
  subst m7
  refine x_ofRun (va_runI (As := []) (rest := st) (Ts := xG) (nL := 4) (bytes := c2) (maxL := n2) ⟨hx, hb, hml, hown, hts⟩ hc ⟨callB_of 0 hts (xgood m1) rfl rfl rfl (hts _ m2) (hts _ hlink) m3 ⟨hroom, ?_⟩, m6, hts _ m5⟩ ⟨xblind, ypre C hI.1 hHz hS _⟩ rfl rfl hl.1 rfl (lv_room hcat) hd ⟨hcs.1, hcs.2⟩) hS (fun v hp' H1 locs1 hq hi hs1 => k v hp' hq H1 ls locs1 ⟨hi.1, ?_⟩ hs1 hl)
  · show 8 + (n2 + 11) + 35 * d ≤ 388
    have m4 : n2 ≤ 16 := m4
    omega
  · have := hi.2
    omega
theorem y_new (C : LC g p s m meth c b L xs) (n : Nat) {sh : List Shp} {rf : Nat → Nat → Option Nat} {M : Mem} {idx ci j : Nat} (hj : sh.length = j) (h8 : ci < 8) (hcl : Cond.classLink RL idx (xC ci) ∈ xG) (hin : Cond.instantiable (xC ci) (xN ci) ∈ xG) (hini : Cond.initialized (xC ci) ∈ xG) (hz : Zr sh rf M) (hroom : cells + 1 ≤ 600000 ∧ slots + xN ci ≤ 7302250) (hd : decode code pc = .ok (.new idx, 3)) (hn : pc + 3 = n)
    (k : Y g p e s m below meth c b n Lc (rv g j :: st) (sh ++ [.inl ci], rf, M) (cells + 1) (slots + xN ci)) : Y g p e s m below meth c b pc Lc st (sh, rf, M) cells slots := by
  subst hn; subst hj
  intro H ls locs hI hS hl
  obtain ⟨⟨hx, hb, hr, hml, hown0, hts0, hX, hbl, hlk, hgv⟩, hL, hK, hB, hZ, hR, hts⟩ := id C
  have hown : s.vm.findClass RL = some m.cls := hown0
  have hfs : ∀ q, q < xN ci → defaultValue (xty ci q) = vp_V ((List.range (xN ci)).map (xF g (sh ++ [.inl ci], rf, M) sh.length ci)) q := fun q hq => by
    have hv : vp_V ((List.range (xN ci)).map (xF g (sh ++ [.inl ci], rf, M) sh.length ci)) q = xF g (sh ++ [.inl ci], rf, M) sh.length ci q := by
      unfold vp_V; simp [List.getD, hq]
    rw [hv]
    unfold xF
    by_cases hrf : xRef ci q = true
    · rw [if_pos hrf]
      show _ = va_rf ((rf sh.length q).map _)
      rw [(hz sh.length (Nat.le_refl _)).1 q]
      rw [xRT ci h8 q hq] at hrf
      exact isRT_def hrf
    · rw [if_neg hrf]
      show _ = iv (M sh.length q)
      rw [(hz sh.length (Nat.le_refl _)).2 q, xRef_int (Bool.eq_false_iff.mpr hrf)]; rfl
  refine va_new (D := gD g) (ci := ci) (fs := (List.range (xN ci)).map (xF g (sh ++ [.inl ci], rf, M) sh.length ci)) (C := xC ci) (T := xT ci) (N := xN ci) hx hb hts (xin h8) (xty ci) (xty_ok h8) hown (hts _ hcl) (hts _ hin) (hts _ hini) hK hI.1.1 (xDD g _) hS (fun q h => by show gB g ≤ q; omega) (xcl_at h8) hfs hroom.1 hroom.2 hd (fun q H1 hP1 hD1 hS1 => ?_)
  refine W.sized (fun hup => ?_)
  have h3 : s.heap.size + cells = gB g + sh.length := hI.2
  have hq : q = gB g + sh.length := xq hP1 hD1 (by show H1.size ≤ gB g + sh.length + 1; omega)
  subst hq
  refine k H1 ls locs ⟨xI_push hP1 rfl rfl hI.1.2, ?_⟩ hS1 hl
  show s.heap.size + (cells + 1) = gB g + (sh ++ [Sum.inl ci]).length
  simp; omega
theorem y_tsw (C : LC g p s m meth c b L xs) (t0 : Nat) {dflt lo hi : Int} {offs : Array Int} {len : Nat} (hd : decode code pc = .ok (.tableswitch dflt lo hi offs, len)) (h0 : (pc : Int) + dflt = (t0 : Int)) (hr : -2147483648 ≤ x ∧ x ≤ 2147483647) (kout : Y g p e s m below meth c b t0 Lc st hp cells slots)
    (kin : lo ≤ x → x ≤ hi → ∃ (off : Int) (tgt : Nat), offs[(x - lo).toNat]? = some off ∧ (pc : Int) + off = (tgt : Int) ∧ Y g p e s m below meth c b tgt Lc st hp cells slots) : Y g p e s m below meth c b pc Lc (iv x :: st) hp cells slots := by
  intro H ls locs hI hS hl
  have ht : (Int32.ofInt x).toInt = x := iT hr.1 hr.2
  by_cases h : x < lo ∨ hi < x
  · exact lv_tableOut C.1.1 C.1.2.1 hd (by rw [ht]; exact h) h0 (kout H ls locs hI hS hl)
  · obtain ⟨off, tgt, h1, h2, k⟩ := kin (by omega) (by omega)
    exact lv_tableIn C.1.1 C.1.2.1 hd (by rw [ht]; omega) (by rw [ht]; omega) (by rw [ht]; exact h1) h2 (k H ls locs hI hS hl)
end LAWROWS
