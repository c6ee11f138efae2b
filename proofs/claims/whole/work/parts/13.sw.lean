section SWITCH
variable {g : GG} {T : XT} {K : XK} {pc : Nat} {L : List (Option Value)} {st : List Value} {hp : Hp} {Q : Option Value → Hp → Prop} {x : Int}
theorem x_tsw (t0 : Nat) {dflt lo hi : Int} {offs : Array Int} {len : Nat} (hd : decode T.2.1 pc = .ok (.tableswitch dflt lo hi offs, len)) (h0 : (pc : Int) + dflt = (t0 : Int)) (hr : -2147483648 ≤ x ∧ x ≤ 2147483647) (kout : x < lo ∨ hi < x → X g T K t0 L st hp Q)
    (kin : ∀ c : Int, lo ≤ c → c ≤ hi → x = c → ∃ (off : Int) (tgt : Nat), offs[(c - lo).toNat]? = some off ∧ (pc : Int) + off = (tgt : Int) ∧ X g T K tgt L st hp Q) : X g T K pc L (iv x :: st) hp Q := by
  intro p e s m args below meth c H ls locs C hI hS hl
  have ht : (Int32.ofInt x).toInt = x := iT hr.1 hr.2
  by_cases h : x < lo ∨ hi < x
  · exact lv_tableOut C.1 C.2.1 hd (by rw [ht]; exact h) h0 (kout h p e s m args below meth c H ls locs C hI hS hl)
  · obtain ⟨off, tgt, h1, h2, k⟩ := kin x (by omega) (by omega) rfl
    exact lv_tableIn C.1 C.2.1 hd (by rw [ht]; omega) (by rw [ht]; omega) (by rw [ht]; exact h1) h2 (k p e s m args below meth c H ls locs C hI hS hl)
/-- two keys -/
theorem x_lsw2 (t0 t1 t2 : Nat) {dflt a1 o1 a2 o2 : Int} {len : Nat} (hd : decode T.2.1 pc = .ok (.lookupswitch dflt #[(a1, o1), (a2, o2)], len)) (h0 : (pc : Int) + dflt = (t0 : Int)) (h1 : (pc : Int) + o1 = (t1 : Int)) (h2 : (pc : Int) + o2 = (t2 : Int)) (ha : a1 < a2) (hr : -2147483648 ≤ x ∧ x ≤ 2147483647)
    (k1 : x = a1 → X g T K t1 L st hp Q) (k2 : x = a2 → X g T K t2 L st hp Q) (kout : x ≠ a1 → x ≠ a2 → X g T K t0 L st hp Q) : X g T K pc L (iv x :: st) hp Q := by
  intro p e s m args below meth c H ls locs C hI hS hl
  have ht : (Int32.ofInt x).toInt = x := iT hr.1 hr.2
  have hp : (((#[(a1, o1), (a2, o2)] : Array (Int × Int)).toList.zip ((#[(a1, o1), (a2, o2)] : Array (Int × Int)).toList.drop 1)).all (fun (a, next) => a.1 < next.1)) = true := by simp [ha]
  by_cases e1 : x = a1
  · exact lv_lookup C.1 C.2.1 hd hp (by rw [ht, e1]; simp [Op.lookupswitch.offset]) h1 (k1 e1 p e s m args below meth c H ls locs C hI hS hl)
  · by_cases e2 : x = a2
    · exact lv_lookup C.1 C.2.1 hd hp (by rw [ht, e2]; simp [Op.lookupswitch.offset]; intro q; omega) h2 (k2 e2 p e s m args below meth c H ls locs C hI hS hl)
    · have e1' : ¬ a1 = x := fun q => e1 q.symm
      have e2' : ¬ a2 = x := fun q => e2 q.symm
      exact lv_lookup C.1 C.2.1 hd hp (by rw [ht]; simp [Op.lookupswitch.offset, e1', e2']) h0 (kout e1 e2 p e s m args below meth c H ls locs C hI hS hl)
end SWITCH
theorem Con.ofF {g : GG} {T : XT} {d mc ms : Nat} {args : List Value} {hp : Hp} {Q : Option Value → Hp → Prop} (L : List (Option Value)) (hn : plainFor T.1 = true) (hL : xargs args ++ List.replicate (T.2.2.1 - (xargs args).length) none = L) (hlen : (lg_sl args).length ≤ T.2.2.1)
    (h : X g T (d, (mc, ms), (0, 0)) 0 L [] hp Q) : Con g T d mc ms args hp Q := by
  refine va_MetF (cc := T.2.1) (maxL := T.2.2.1) (ret := T.2.2.2) hn rfl ?_
  intro p e s m args' below meth c s₁ B hml hv
  obtain ⟨rfl, hI, hz, hK, hZ, hR⟩ := hv
  have hts := atoms_spec (ws := xws T) B.pre
  have hown : s.vm.findClass T.1.cls = some m.cls := findClass_of_methodNamed B.named
  rw [lg_entry_eq]
  exact h p e s m args.toArray below meth c s.heap _ [] ⟨B.exec, B.bytes, hml, hown, fun w hw => hts w (List.mem_cons_of_mem _ hw), B.returns, B.notSynchronized, hK, by rw [hz]; exact Nat.le_add_right _ _, (name_of_methodNamed B.named B.method).1, hZ, hR⟩ ⟨hI, hz⟩ va_S.rf (xL_entry args hlen L hL)
