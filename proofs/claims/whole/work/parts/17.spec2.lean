/-! ===== one cell of a league changed ===== -/
def setK (v : LV) (f : Int → Int) : LV := (vn v, vf v, vw v, f, vS v, vL v, vO v, vA v, vB v)
def setS (v : LV) (f : Int → Int) : LV := (vn v, vf v, vw v, vK v, f, vL v, vO v, vA v, vB v)
def setL (v : LV) (f : Int → Int) : LV := (vn v, vf v, vw v, vK v, vS v, f, vO v, vA v, vB v)
def setO (v : LV) (f : Int → Int) : LV := (vn v, vf v, vw v, vK v, vS v, vL v, f, vA v, vB v)
def setA (v : LV) (f : Int → Int) : LV := (vn v, vf v, vw v, vK v, vS v, vL v, vO v, f, vB v)
def setB (v : LV) (f : Int → Int) : LV := (vn v, vf v, vw v, vK v, vS v, vL v, vO v, vA v, f)
def setN (v : LV) (x : Int) : LV := (x, vf v, vw v, vK v, vS v, vL v, vO v, vA v, vB v)
def setF (v : LV) (x : Int) : LV := (vn v, x, vw v, vK v, vS v, vL v, vO v, vA v, vB v)
theorem Rep.ext {M : Mem} {o : Nat} {v v' : LV} (h : Rep M o v) (e1 : vn v' = vn v) (e2 : vf v' = vf v) (e3 : vw v' = vw v) (e4 : ∀ t, 0 ≤ t → t < vn v → vK v' t = vK v t ∧ vS v' t = vS v t ∧ vL v' t = vL v t ∧ vO v' t = vO v t) (e5 : ∀ i, 0 ≤ i → i < vf v → vA v' i = vA v i ∧ vB v' i = vB v i) : Rep M o v' := by
  obtain ⟨r1, r2, r3, r4, r5⟩ := h
  refine ⟨r1.trans e1.symm, r2.trans e2.symm, r3.trans e3.symm, fun t a b => ?_, fun i a b => ?_⟩
  · rw [e1] at b
    obtain ⟨a1, a2, a3, a4⟩ := r4 t a b
    obtain ⟨b1, b2, b3, b4⟩ := e4 t a b
    exact ⟨a1.trans b1.symm, a2.trans b2.symm, a3.trans b3.symm, a4.trans b4.symm⟩
  · rw [e2] at b
    obtain ⟨a1, a2⟩ := r5 i a b
    obtain ⟨b1, b2⟩ := e5 i a b
    exact ⟨a1.trans b1.symm, a2.trans b2.symm⟩
theorem Rep_K {M : Mem} {o : Nat} {v : LV} (h : Rep M o v) (k x : Int) : Rep (up2 M (o + 1) k x) o (setK v (fu (vK v) k x)) := by
  obtain ⟨r1, r2, r3, r4, r5⟩ := h
  have q0 : up2 M (o + 1) k x o = M o := up2_o _ _ _ (by omega)
  refine ⟨(congrFun q0 6).trans r1, (congrFun q0 7).trans r2, (congrFun q0 8).trans r3, fun t a b => ?_, fun i a b => ?_⟩
  · obtain ⟨a1, a2, a3, a4⟩ := r4 t a b
    refine ⟨?_, ?_, ?_, ?_⟩
    · show up2 M (o + 1) k x (o + 1) t = fu (vK v) k x t
      rw [up2_i, a1]; rfl
    · exact (congrFun (up2_o M k x (show o + 2 ≠ o + 1 by omega)) t).trans a2
    · exact (congrFun (up2_o M k x (show o + 3 ≠ o + 1 by omega)) t).trans a3
    · exact (congrFun (up2_o M k x (show o + 4 ≠ o + 1 by omega)) t).trans a4
  · obtain ⟨a5, a6⟩ := r5 i a b
    refine ⟨?_, ?_⟩
    · exact (congrFun (up2_o M k x (show o + 5 ≠ o + 1 by omega)) i).trans a5
    · exact (congrFun (up2_o M k x (show o + 6 ≠ o + 1 by omega)) i).trans a6
theorem Rep_S {M : Mem} {o : Nat} {v : LV} (h : Rep M o v) (k x : Int) : Rep (up2 M (o + 2) k x) o (setS v (fu (vS v) k x)) := by
  obtain ⟨r1, r2, r3, r4, r5⟩ := h
  have q0 : up2 M (o + 2) k x o = M o := up2_o _ _ _ (by omega)
  refine ⟨(congrFun q0 6).trans r1, (congrFun q0 7).trans r2, (congrFun q0 8).trans r3, fun t a b => ?_, fun i a b => ?_⟩
  · obtain ⟨a1, a2, a3, a4⟩ := r4 t a b
    refine ⟨?_, ?_, ?_, ?_⟩
    · exact (congrFun (up2_o M k x (show o + 1 ≠ o + 2 by omega)) t).trans a1
    · show up2 M (o + 2) k x (o + 2) t = fu (vS v) k x t
      rw [up2_i, a2]; rfl
    · exact (congrFun (up2_o M k x (show o + 3 ≠ o + 2 by omega)) t).trans a3
    · exact (congrFun (up2_o M k x (show o + 4 ≠ o + 2 by omega)) t).trans a4
  · obtain ⟨a5, a6⟩ := r5 i a b
    refine ⟨?_, ?_⟩
    · exact (congrFun (up2_o M k x (show o + 5 ≠ o + 2 by omega)) i).trans a5
    · exact (congrFun (up2_o M k x (show o + 6 ≠ o + 2 by omega)) i).trans a6
theorem Rep_L {M : Mem} {o : Nat} {v : LV} (h : Rep M o v) (k x : Int) : Rep (up2 M (o + 3) k x) o (setL v (fu (vL v) k x)) := by
  obtain ⟨r1, r2, r3, r4, r5⟩ := h
  have q0 : up2 M (o + 3) k x o = M o := up2_o _ _ _ (by omega)
  refine ⟨(congrFun q0 6).trans r1, (congrFun q0 7).trans r2, (congrFun q0 8).trans r3, fun t a b => ?_, fun i a b => ?_⟩
  · obtain ⟨a1, a2, a3, a4⟩ := r4 t a b
    refine ⟨?_, ?_, ?_, ?_⟩
    · exact (congrFun (up2_o M k x (show o + 1 ≠ o + 3 by omega)) t).trans a1
    · exact (congrFun (up2_o M k x (show o + 2 ≠ o + 3 by omega)) t).trans a2
    · show up2 M (o + 3) k x (o + 3) t = fu (vL v) k x t
      rw [up2_i, a3]; rfl
    · exact (congrFun (up2_o M k x (show o + 4 ≠ o + 3 by omega)) t).trans a4
  · obtain ⟨a5, a6⟩ := r5 i a b
    refine ⟨?_, ?_⟩
    · exact (congrFun (up2_o M k x (show o + 5 ≠ o + 3 by omega)) i).trans a5
    · exact (congrFun (up2_o M k x (show o + 6 ≠ o + 3 by omega)) i).trans a6
theorem Rep_O {M : Mem} {o : Nat} {v : LV} (h : Rep M o v) (k x : Int) : Rep (up2 M (o + 4) k x) o (setO v (fu (vO v) k x)) := by
  obtain ⟨r1, r2, r3, r4, r5⟩ := h
  have q0 : up2 M (o + 4) k x o = M o := up2_o _ _ _ (by omega)
  refine ⟨(congrFun q0 6).trans r1, (congrFun q0 7).trans r2, (congrFun q0 8).trans r3, fun t a b => ?_, fun i a b => ?_⟩
  · obtain ⟨a1, a2, a3, a4⟩ := r4 t a b
    refine ⟨?_, ?_, ?_, ?_⟩
    · exact (congrFun (up2_o M k x (show o + 1 ≠ o + 4 by omega)) t).trans a1
    · exact (congrFun (up2_o M k x (show o + 2 ≠ o + 4 by omega)) t).trans a2
    · exact (congrFun (up2_o M k x (show o + 3 ≠ o + 4 by omega)) t).trans a3
    · show up2 M (o + 4) k x (o + 4) t = fu (vO v) k x t
      rw [up2_i, a4]; rfl
  · obtain ⟨a5, a6⟩ := r5 i a b
    refine ⟨?_, ?_⟩
    · exact (congrFun (up2_o M k x (show o + 5 ≠ o + 4 by omega)) i).trans a5
    · exact (congrFun (up2_o M k x (show o + 6 ≠ o + 4 by omega)) i).trans a6
theorem Rep_A {M : Mem} {o : Nat} {v : LV} (h : Rep M o v) (k x : Int) : Rep (up2 M (o + 5) k x) o (setA v (fu (vA v) k x)) := by
  obtain ⟨r1, r2, r3, r4, r5⟩ := h
  have q0 : up2 M (o + 5) k x o = M o := up2_o _ _ _ (by omega)
  refine ⟨(congrFun q0 6).trans r1, (congrFun q0 7).trans r2, (congrFun q0 8).trans r3, fun t a b => ?_, fun i a b => ?_⟩
  · obtain ⟨a1, a2, a3, a4⟩ := r4 t a b
    refine ⟨?_, ?_, ?_, ?_⟩
    · exact (congrFun (up2_o M k x (show o + 1 ≠ o + 5 by omega)) t).trans a1
    · exact (congrFun (up2_o M k x (show o + 2 ≠ o + 5 by omega)) t).trans a2
    · exact (congrFun (up2_o M k x (show o + 3 ≠ o + 5 by omega)) t).trans a3
    · exact (congrFun (up2_o M k x (show o + 4 ≠ o + 5 by omega)) t).trans a4
  · obtain ⟨a5, a6⟩ := r5 i a b
    refine ⟨?_, ?_⟩
    · show up2 M (o + 5) k x (o + 5) i = fu (vA v) k x i
      rw [up2_i, a5]; rfl
    · exact (congrFun (up2_o M k x (show o + 6 ≠ o + 5 by omega)) i).trans a6
theorem Rep_B {M : Mem} {o : Nat} {v : LV} (h : Rep M o v) (k x : Int) : Rep (up2 M (o + 6) k x) o (setB v (fu (vB v) k x)) := by
  obtain ⟨r1, r2, r3, r4, r5⟩ := h
  have q0 : up2 M (o + 6) k x o = M o := up2_o _ _ _ (by omega)
  refine ⟨(congrFun q0 6).trans r1, (congrFun q0 7).trans r2, (congrFun q0 8).trans r3, fun t a b => ?_, fun i a b => ?_⟩
  · obtain ⟨a1, a2, a3, a4⟩ := r4 t a b
    refine ⟨?_, ?_, ?_, ?_⟩
    · exact (congrFun (up2_o M k x (show o + 1 ≠ o + 6 by omega)) t).trans a1
    · exact (congrFun (up2_o M k x (show o + 2 ≠ o + 6 by omega)) t).trans a2
    · exact (congrFun (up2_o M k x (show o + 3 ≠ o + 6 by omega)) t).trans a3
    · exact (congrFun (up2_o M k x (show o + 4 ≠ o + 6 by omega)) t).trans a4
  · obtain ⟨a5, a6⟩ := r5 i a b
    refine ⟨?_, ?_⟩
    · exact (congrFun (up2_o M k x (show o + 5 ≠ o + 6 by omega)) i).trans a5
    · show up2 M (o + 6) k x (o + 6) i = fu (vB v) k x i
      rw [up2_i, a6]; rfl
theorem Rep_W {M : Mem} {o : Nat} {v : LV} (h : Rep M o v) (x : Int) : Rep (up2 M o 8 x) o (setW v x) := by
  obtain ⟨r1, r2, r3, r4, r5⟩ := h
  have q (j : Nat) (hj : 0 < j) : up2 M o 8 x (o + j) = M (o + j) := up2_o _ _ _ (by omega)
  refine ⟨(up2_k _ _ _ (by omega)).trans r1, (up2_k _ _ _ (by omega)).trans r2, up2_s _ _ _ _, fun t a b => ?_, fun i a b => ?_⟩
  · rw [q 1 (by omega), q 2 (by omega), q 3 (by omega), q 4 (by omega)]; exact r4 t a b
  · rw [q 5 (by omega), q 6 (by omega)]; exact r5 i a b
/-- the year closed for the first i towns -/
def yr (v : LV) (i : Int) : LV := (vn v, vf v, vw v, vK v, vS v, fun t => if t < i then 0 else vL v t, fun t => if t < i then (if vL v t = 0 then min 99 (vO v t + 1) else vO v t) else vO v t, vA v, vB v)
theorem yr_step0 {M : Mem} {o : Nat} {v : LV} {i x : Int} (h : Rep M o (yr v i)) (h0 : vL v i = 0) (hx : x = min 99 (vO v i + 1)) : Rep (up2 (up2 M (o + 4) i x) (o + 3) i 0) o (yr v (i + 1)) := by
  refine Rep.ext (Rep_L (Rep_O h i x) i 0) rfl rfl rfl (fun t a b => ⟨rfl, rfl, ?_, ?_⟩) (fun _ _ _ => ⟨rfl, rfl⟩)
  · show (if t < i + 1 then 0 else vL v t) = if t = i then 0 else if t < i then 0 else vL v t
    repeat' split
    all_goals first | rfl | omega
  · show (if t < i + 1 then (if vL v t = 0 then min 99 (vO v t + 1) else vO v t) else vO v t) = if t = i then x else if t < i then (if vL v t = 0 then min 99 (vO v t + 1) else vO v t) else vO v t
    by_cases e : t = i
    · subst e; rw [if_pos (by omega), if_pos h0, if_pos rfl, hx]
    · rw [if_neg e]
      by_cases e2 : t < i
      · rw [if_pos (by omega), if_pos e2]
      · rw [if_neg (by omega), if_neg e2]
theorem yr_step1 {M : Mem} {o : Nat} {v : LV} {i : Int} (h : Rep M o (yr v i)) (h0 : vL v i ≠ 0) : Rep (up2 M (o + 3) i 0) o (yr v (i + 1)) := by
  refine Rep.ext (Rep_L h i 0) rfl rfl rfl (fun t a b => ⟨rfl, rfl, ?_, ?_⟩) (fun _ _ _ => ⟨rfl, rfl⟩)
  · show (if t < i + 1 then 0 else vL v t) = if t = i then 0 else if t < i then 0 else vL v t
    repeat' split
    all_goals first | rfl | omega
  · show (if t < i + 1 then (if vL v t = 0 then min 99 (vO v t + 1) else vO v t) else vO v t) = if t < i then (if vL v t = 0 then min 99 (vO v t + 1) else vO v t) else vO v t
    by_cases e : t = i
    · subst e; rw [if_pos (by omega), if_neg h0, if_neg (by omega)]
    · by_cases e2 : t < i
      · rw [if_pos (by omega), if_pos e2]
      · rw [if_neg (by omega), if_neg e2]
theorem yr_0 {M : Mem} {o : Nat} {v : LV} (h : Rep M o v) : Rep M o (yr v 0) :=
  Rep.ext h rfl rfl rfl (fun t a _ => ⟨rfl, rfl, if_neg (by omega), if_neg (by omega)⟩) (fun _ _ _ => ⟨rfl, rfl⟩)
theorem yr_end {M : Mem} {o : Nat} {v : LV} {i : Int} (h : Rep M o (yr v i)) (hi : vn v ≤ i) : Rep M o (yearEnd v) :=
  Rep.ext h rfl rfl rfl (fun t _ b => ⟨rfl, rfl, (if_pos (show t < i from Int.lt_of_lt_of_le b hi)).symm, (if_pos (show t < i from Int.lt_of_lt_of_le b hi)).symm⟩) (fun _ _ _ => ⟨rfl, rfl⟩)
