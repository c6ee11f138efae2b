/-! ===== the world behind the two constructors: 0 the class's object, 50 the reference's ===== -/
def S0 : List Shp := [.inl 6, .inl 5, .inl 4, .inr (1, 160), .inl 1, .inr (0, 5), .inr (0, 5), .inr (0, 5), .inr (0, 5), .inr (0, 10), .inr (0, 10), .inl 1, .inr (0, 5), .inr (0, 5), .inr (0, 5), .inr (0, 5), .inr (0, 10), .inr (0, 10), .inr (3, 2), .inr (2, 2), .inr (4, 4), .inl 3, .inr (0, 6), .inr (0, 6), .inl 0, .inr (0, 5), .inr (0, 441), .inr (0, 6), .inl 1, .inr (0, 5), .inr (0, 5), .inr (0, 5), .inr (0, 5), .inr (0, 10), .inr (0, 10), .inl 1, .inr (0, 5), .inr (0, 5), .inr (0, 5), .inr (0, 5), .inr (0, 10), .inr (0, 10), .inl 2, .inr (0, 40), .inl 2, .inr (0, 40), .inl 2, .inr (0, 40), .inl 2, .inr (0, 40), .inl 7, .inr (0, 252), .inr (0, 42), .inr (0, 160), .inr (0, 6), .inr (0, 26), .inr (0, 5), .inr (0, 12), .inr (0, 441), .inr (2, 2), .inr (0, 4), .inr (0, 4), .inr (0, 160)]
def R0t : List (List (Option Nat)) := [[some 1, some 2, some 4, some 11, some 18, some 19, some 20, some 21, some 24, some 25, some 26, some 27], [some 2], [some 3], [], [some 5, some 6, some 7, some 8, some 9, some 10], [], [], [], [], [], [], [some 12, some 13, some 14, some 15, some 16, some 17], [], [], [], [], [], [], [some 28, some 35], [], [some 42, some 44, some 46, some 48], [some 22, some 23], [], [], [], [], [], [], [some 29, some 30, some 31, some 32, some 33, some 34], [], [], [], [], [], [], [some 36, some 37, some 38, some 39, some 40, some 41], [], [], [], [], [], [], [some 43], [], [some 45], [], [some 47], [], [some 49], [], [some 51, none, some 52, none, none, some 53, none, none, none, none, none, none, none, none, some 54, some 55, none, none, none, none, some 56, some 57, none, some 58, some 59, some 60, some 61, some 62], [], [], [], [], [], [], [], [], [], [], [], []]
def R0 (a b : Nat) : Option Nat := (R0t.getD a []).getD b none
def isLg (o : Nat) : Prop := o = 4 ∨ o = 11 ∨ o = 28 ∨ o = 35
def isSt (o : Nat) : Prop := o = 42 ∨ o = 44 ∨ o = 46 ∨ o = 48
theorem lg_s {o : Nat} (h : isLg o) : S0[o]? = some (.inl 1) := by rcases h with rfl | rfl | rfl | rfl <;> rfl
theorem lg_r0 {o : Nat} (h : isLg o) : R0 o 0 = some (o + 1) := by rcases h with rfl | rfl | rfl | rfl <;> rfl
theorem lg_a0 {o : Nat} (h : isLg o) : S0[o + 1]? = some (.inr (0, 5)) := by rcases h with rfl | rfl | rfl | rfl <;> rfl
theorem lg_r1 {o : Nat} (h : isLg o) : R0 o 1 = some (o + 2) := by rcases h with rfl | rfl | rfl | rfl <;> rfl
theorem lg_a1 {o : Nat} (h : isLg o) : S0[o + 2]? = some (.inr (0, 5)) := by rcases h with rfl | rfl | rfl | rfl <;> rfl
theorem lg_r2 {o : Nat} (h : isLg o) : R0 o 2 = some (o + 3) := by rcases h with rfl | rfl | rfl | rfl <;> rfl
theorem lg_a2 {o : Nat} (h : isLg o) : S0[o + 3]? = some (.inr (0, 5)) := by rcases h with rfl | rfl | rfl | rfl <;> rfl
theorem lg_r3 {o : Nat} (h : isLg o) : R0 o 3 = some (o + 4) := by rcases h with rfl | rfl | rfl | rfl <;> rfl
theorem lg_a3 {o : Nat} (h : isLg o) : S0[o + 4]? = some (.inr (0, 5)) := by rcases h with rfl | rfl | rfl | rfl <;> rfl
theorem lg_r4 {o : Nat} (h : isLg o) : R0 o 4 = some (o + 5) := by rcases h with rfl | rfl | rfl | rfl <;> rfl
theorem lg_a4 {o : Nat} (h : isLg o) : S0[o + 5]? = some (.inr (0, 10)) := by rcases h with rfl | rfl | rfl | rfl <;> rfl
theorem lg_r5 {o : Nat} (h : isLg o) : R0 o 5 = some (o + 6) := by rcases h with rfl | rfl | rfl | rfl <;> rfl
theorem lg_a5 {o : Nat} (h : isLg o) : S0[o + 6]? = some (.inr (0, 10)) := by rcases h with rfl | rfl | rfl | rfl <;> rfl
theorem st_s {o : Nat} (h : isSt o) : S0[o]? = some (.inl 2) := by rcases h with rfl | rfl | rfl | rfl <;> rfl
theorem st_r0 {o : Nat} (h : isSt o) : R0 o 0 = some (o + 1) := by rcases h with rfl | rfl | rfl | rfl <;> rfl
theorem st_a0 {o : Nat} (h : isSt o) : S0[o + 1]? = some (.inr (0, 40)) := by rcases h with rfl | rfl | rfl | rfl <;> rfl
def QP (M : Mem) (r : Int) : Option Value → Hp → Prop := fun v hp => v = some (iv r) ∧ hp = (S0, R0, M)
def QJ (M : Mem) (r : Int) : Option Value → Hp → Prop := fun v hp => v = some (jv r) ∧ hp = (S0, R0, M)
def QI (P : Int → Mem → Prop) : Option Value → Hp → Prop := fun v hp => ∃ (r : Int) (M : Mem), v = some (iv r) ∧ hp = (S0, R0, M) ∧ P r M
def QL (P : Int → Mem → Prop) : Option Value → Hp → Prop := fun v hp => ∃ (r : Int) (M : Mem), v = some (jv r) ∧ hp = (S0, R0, M) ∧ P r M
def QV (P : Mem → Prop) : Option Value → Hp → Prop := fun v hp => ∃ M : Mem, v = none ∧ hp = (S0, R0, M) ∧ P M
/-- contracts in that world: nothing is made. CP: an int, nothing changes; CI: an int and a new memory; CV: a new memory; CJ, CL: a long -/
abbrev CP (g : GG) (T : XT) (d : Nat) (args : List Value) (M : Mem) (r : Int) : Prop := Con g T d 0 0 args (S0, R0, M) (QP M r)
abbrev CJ (g : GG) (T : XT) (d : Nat) (args : List Value) (M : Mem) (r : Int) : Prop := Con g T d 0 0 args (S0, R0, M) (QJ M r)
abbrev CI (g : GG) (T : XT) (d : Nat) (args : List Value) (M : Mem) (P : Int → Mem → Prop) : Prop := Con g T d 0 0 args (S0, R0, M) (QI P)
abbrev CL (g : GG) (T : XT) (d : Nat) (args : List Value) (M : Mem) (P : Int → Mem → Prop) : Prop := Con g T d 0 0 args (S0, R0, M) (QL P)
abbrev CV (g : GG) (T : XT) (d : Nat) (args : List Value) (M : Mem) (P : Mem → Prop) : Prop := Con g T d 0 0 args (S0, R0, M) (QV P)
abbrev kk0 (d : Nat) : XK := (d, (0, 0), (0, 0))
theorem qp_i {M M' : Mem} {r r' : Int} (h : r' = r) (h2 : M' = M) : QP M r (some (iv r')) (S0, R0, M') := ⟨by rw [h], by rw [h2]⟩
theorem qj_i {M M' : Mem} {r r' : Int} (h : r' = r) (h2 : M' = M) : QJ M r (some (jv r')) (S0, R0, M') := ⟨by rw [h], by rw [h2]⟩
theorem qi_i {P : Int → Mem → Prop} {M : Mem} {r : Int} (h : P r M) : QI P (some (iv r)) (S0, R0, M) := ⟨r, M, rfl, rfl, h⟩
theorem ql_i {P : Int → Mem → Prop} {M : Mem} {r : Int} (h : P r M) : QL P (some (jv r)) (S0, R0, M) := ⟨r, M, rfl, rfl, h⟩
theorem qv_i {P : Mem → Prop} {M : Mem} (h : P M) : QV P none (S0, R0, M) := ⟨M, rfl, rfl, h⟩
/-- the range of what is held, wherever a walk is -/
theorem x_rng {g : GG} {T : XT} {K : XK} {pc : Nat} {L : List (Option Value)} {st : List Value} {sh : List Shp} {rf : Nat → Nat → Option Nat} {M : Mem} {Q : Option Value → Hp → Prop} (k : (∀ i z, -2147483648 ≤ M i z ∧ M i z ≤ 2147483647) → X g T K pc L st (sh, rf, M) Q) : X g T K pc L st (sh, rf, M) Q := by
  intro p e s m args below meth c H ls locs C hI hS hl
  exact k hI.1.2 p e s m args below meth c H ls locs C hI hS hl
theorem x_Q {g : GG} {T : XT} {K : XK} {pc : Nat} {L : List (Option Value)} {st : List Value} {hp : Hp} {Q Q' : Option Value → Hp → Prop} (h : ∀ v hp', Q' v hp' → Q v hp') (k : X g T K pc L st hp Q') : X g T K pc L st hp Q := by
  intro p e s m args below meth c H ls locs C hI hS hl
  intro TT hT X
  obtain ⟨t, a1, o, b1, b2, ⟨⟨v, hp', e1, e2, e3⟩, e4⟩, b4⟩ := k p e s m args below meth c H ls locs C hI hS hl TT hT X
  exact ⟨t, a1, o, b1, b2, ⟨⟨v, hp', e1, h v hp' e2, e3⟩, e4⟩, b4⟩
section CALLS
variable {g : GG} {T T2 : XT} {D d pc idx i ci na : Nat} {L : List (Option Value)} {st stk : List Value} {Q : Option Value → Hp → Prop} {M : Mem}
theorem x_vp (n : Nat) (As : List Value) {r : Int} (hc : CP g T2 d (rv g i :: As) M r) (hM : MV T2 na) (hlink : Cond.methodLink T.1.cls idx T2.1 ∈ xG) (hd : decode T.2.1 pc = .ok (.invokevirtual idx, 3)) (hn : pc + 3 = n) (hs : S0[i]? = some (.inl ci)) (hci : ci < 8 ∧ xC ci = T2.1.cls) (hlen : As.length = na) (hstk : stk = As.reverse ++ rv g i :: st) (hcat : (st.map fun v => v.category).sum ≤ 8) (hroom : d + 1 ≤ D) (k : X g T (kk0 D) n L (iv r :: st) (S0, R0, M) Q) : X g T (kk0 D) pc L stk (S0, R0, M) Q := by
  refine x_callV n As hc hM hlink hd hn hs hci hlen hstk hcat ⟨hroom, Nat.le_refl _, Nat.le_refl _⟩ (fun v hp' hq => ?_)
  obtain ⟨rfl, rfl⟩ := hq
  exact k
theorem x_sp (n : Nat) (As : List Value) {r : Int} (hc : CP g T2 d As M r) (hM : MS T2 na) (hlink : Cond.methodLink T.1.cls idx T2.1 ∈ xG) (hd : decode T.2.1 pc = .ok (.invokestatic idx, 3)) (hn : pc + 3 = n) (hlen : As.length = na) (hstk : stk = As.reverse ++ st) (hcat : (st.map fun v => v.category).sum ≤ 8) (hroom : d + 1 ≤ D) (k : X g T (kk0 D) n L (iv r :: st) (S0, R0, M) Q) : X g T (kk0 D) pc L stk (S0, R0, M) Q := by
  refine x_callS n As hc hM hlink hd hn hlen hstk hcat ⟨hroom, Nat.le_refl _, Nat.le_refl _⟩ (fun v hp' hq => ?_)
  obtain ⟨rfl, rfl⟩ := hq
  exact k
theorem x_vj (n : Nat) (As : List Value) {r : Int} (hc : CJ g T2 d (rv g i :: As) M r) (hM : MV T2 na) (hlink : Cond.methodLink T.1.cls idx T2.1 ∈ xG) (hd : decode T.2.1 pc = .ok (.invokevirtual idx, 3)) (hn : pc + 3 = n) (hs : S0[i]? = some (.inl ci)) (hci : ci < 8 ∧ xC ci = T2.1.cls) (hlen : As.length = na) (hstk : stk = As.reverse ++ rv g i :: st) (hcat : (st.map fun v => v.category).sum ≤ 8) (hroom : d + 1 ≤ D) (k : X g T (kk0 D) n L (jv r :: st) (S0, R0, M) Q) : X g T (kk0 D) pc L stk (S0, R0, M) Q := by
  refine x_callV n As hc hM hlink hd hn hs hci hlen hstk hcat ⟨hroom, Nat.le_refl _, Nat.le_refl _⟩ (fun v hp' hq => ?_)
  obtain ⟨rfl, rfl⟩ := hq
  exact k
theorem x_sj (n : Nat) (As : List Value) {r : Int} (hc : CJ g T2 d As M r) (hM : MS T2 na) (hlink : Cond.methodLink T.1.cls idx T2.1 ∈ xG) (hd : decode T.2.1 pc = .ok (.invokestatic idx, 3)) (hn : pc + 3 = n) (hlen : As.length = na) (hstk : stk = As.reverse ++ st) (hcat : (st.map fun v => v.category).sum ≤ 8) (hroom : d + 1 ≤ D) (k : X g T (kk0 D) n L (jv r :: st) (S0, R0, M) Q) : X g T (kk0 D) pc L stk (S0, R0, M) Q := by
  refine x_callS n As hc hM hlink hd hn hlen hstk hcat ⟨hroom, Nat.le_refl _, Nat.le_refl _⟩ (fun v hp' hq => ?_)
  obtain ⟨rfl, rfl⟩ := hq
  exact k
theorem x_vi (n : Nat) (As : List Value) {P : Int → Mem → Prop} (hc : CI g T2 d (rv g i :: As) M P) (hM : MV T2 na) (hlink : Cond.methodLink T.1.cls idx T2.1 ∈ xG) (hd : decode T.2.1 pc = .ok (.invokevirtual idx, 3)) (hn : pc + 3 = n) (hs : S0[i]? = some (.inl ci)) (hci : ci < 8 ∧ xC ci = T2.1.cls) (hlen : As.length = na) (hstk : stk = As.reverse ++ rv g i :: st) (hcat : (st.map fun v => v.category).sum ≤ 8) (hroom : d + 1 ≤ D) (k : ∀ (r : Int) (M2 : Mem), P r M2 → X g T (kk0 D) n L (iv r :: st) (S0, R0, M2) Q) : X g T (kk0 D) pc L stk (S0, R0, M) Q := by
  refine x_callV n As hc hM hlink hd hn hs hci hlen hstk hcat ⟨hroom, Nat.le_refl _, Nat.le_refl _⟩ (fun v hp' hq => ?_)
  obtain ⟨r, M2, rfl, rfl, h⟩ := hq
  exact k r M2 h
theorem x_si (n : Nat) (As : List Value) {P : Int → Mem → Prop} (hc : CI g T2 d As M P) (hM : MS T2 na) (hlink : Cond.methodLink T.1.cls idx T2.1 ∈ xG) (hd : decode T.2.1 pc = .ok (.invokestatic idx, 3)) (hn : pc + 3 = n) (hlen : As.length = na) (hstk : stk = As.reverse ++ st) (hcat : (st.map fun v => v.category).sum ≤ 8) (hroom : d + 1 ≤ D) (k : ∀ (r : Int) (M2 : Mem), P r M2 → X g T (kk0 D) n L (iv r :: st) (S0, R0, M2) Q) : X g T (kk0 D) pc L stk (S0, R0, M) Q := by
  refine x_callS n As hc hM hlink hd hn hlen hstk hcat ⟨hroom, Nat.le_refl _, Nat.le_refl _⟩ (fun v hp' hq => ?_)
  obtain ⟨r, M2, rfl, rfl, h⟩ := hq
  exact k r M2 h
theorem x_vl (n : Nat) (As : List Value) {P : Int → Mem → Prop} (hc : CL g T2 d (rv g i :: As) M P) (hM : MV T2 na) (hlink : Cond.methodLink T.1.cls idx T2.1 ∈ xG) (hd : decode T.2.1 pc = .ok (.invokevirtual idx, 3)) (hn : pc + 3 = n) (hs : S0[i]? = some (.inl ci)) (hci : ci < 8 ∧ xC ci = T2.1.cls) (hlen : As.length = na) (hstk : stk = As.reverse ++ rv g i :: st) (hcat : (st.map fun v => v.category).sum ≤ 8) (hroom : d + 1 ≤ D) (k : ∀ (r : Int) (M2 : Mem), P r M2 → X g T (kk0 D) n L (jv r :: st) (S0, R0, M2) Q) : X g T (kk0 D) pc L stk (S0, R0, M) Q := by
  refine x_callV n As hc hM hlink hd hn hs hci hlen hstk hcat ⟨hroom, Nat.le_refl _, Nat.le_refl _⟩ (fun v hp' hq => ?_)
  obtain ⟨r, M2, rfl, rfl, h⟩ := hq
  exact k r M2 h
theorem x_sl (n : Nat) (As : List Value) {P : Int → Mem → Prop} (hc : CL g T2 d As M P) (hM : MS T2 na) (hlink : Cond.methodLink T.1.cls idx T2.1 ∈ xG) (hd : decode T.2.1 pc = .ok (.invokestatic idx, 3)) (hn : pc + 3 = n) (hlen : As.length = na) (hstk : stk = As.reverse ++ st) (hcat : (st.map fun v => v.category).sum ≤ 8) (hroom : d + 1 ≤ D) (k : ∀ (r : Int) (M2 : Mem), P r M2 → X g T (kk0 D) n L (jv r :: st) (S0, R0, M2) Q) : X g T (kk0 D) pc L stk (S0, R0, M) Q := by
  refine x_callS n As hc hM hlink hd hn hlen hstk hcat ⟨hroom, Nat.le_refl _, Nat.le_refl _⟩ (fun v hp' hq => ?_)
  obtain ⟨r, M2, rfl, rfl, h⟩ := hq
  exact k r M2 h
theorem x_vv (n : Nat) (As : List Value) {P : Mem → Prop} (hc : CV g T2 d (rv g i :: As) M P) (hM : MV T2 na) (hlink : Cond.methodLink T.1.cls idx T2.1 ∈ xG) (hd : decode T.2.1 pc = .ok (.invokevirtual idx, 3)) (hn : pc + 3 = n) (hs : S0[i]? = some (.inl ci)) (hci : ci < 8 ∧ xC ci = T2.1.cls) (hlen : As.length = na) (hstk : stk = As.reverse ++ rv g i :: st) (hcat : (st.map fun v => v.category).sum ≤ 8) (hroom : d + 1 ≤ D) (k : ∀ M2 : Mem, P M2 → X g T (kk0 D) n L st (S0, R0, M2) Q) : X g T (kk0 D) pc L stk (S0, R0, M) Q := by
  refine x_callV n As hc hM hlink hd hn hs hci hlen hstk hcat ⟨hroom, Nat.le_refl _, Nat.le_refl _⟩ (fun v hp' hq => ?_)
  obtain ⟨M2, rfl, rfl, h⟩ := hq
  exact k M2 h
theorem x_sv (n : Nat) (As : List Value) {P : Mem → Prop} (hc : CV g T2 d As M P) (hM : MS T2 na) (hlink : Cond.methodLink T.1.cls idx T2.1 ∈ xG) (hd : decode T.2.1 pc = .ok (.invokestatic idx, 3)) (hn : pc + 3 = n) (hlen : As.length = na) (hstk : stk = As.reverse ++ st) (hcat : (st.map fun v => v.category).sum ≤ 8) (hroom : d + 1 ≤ D) (k : ∀ M2 : Mem, P M2 → X g T (kk0 D) n L st (S0, R0, M2) Q) : X g T (kk0 D) pc L stk (S0, R0, M) Q := by
  refine x_callS n As hc hM hlink hd hn hlen hstk hcat ⟨hroom, Nat.le_refl _, Nat.le_refl _⟩ (fun v hp' hq => ?_)
  obtain ⟨M2, rfl, rfl, h⟩ := hq
  exact k M2 h
end CALLS
