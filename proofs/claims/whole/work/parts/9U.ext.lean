/-! numbers behind an array's end don't matter -/
theorem arrV_ext {cA : ClassId} {n : Nat} {f g : Nat → Value} (h : ∀ j, j < n → f j = g j) : arrV cA n f = arrV cA n g := by
  have e : (fun j : Fin n => f j.val) = fun j : Fin n => g j.val := funext fun j => h j.val j.isLt
  unfold arrV
  rw [e]
theorem Sm.ext {E : En} {adr : Ad → Nat} {h h' : Hp} {H : Heap} (e2 : h'.2 = h.2) (e1 : ∀ a j, j < (mt a).2 → h'.1 a j = h.1 a j) (s : Sm E adr h H) : Sm E adr h' H := by
  obtain ⟨⟨nl, hn, hP, hD⟩, hc⟩ := s
  refine ⟨⟨nl, fun a => by rw [e2]; exact hn a, ?_, ?_⟩, by rw [e2]; exact hc⟩
  · intro k q hq
    unfold wO at hq
    rw [List.getElem?_map] at hq
    cases hk : nl[k]? with
    | none => rw [hk] at hq; cases hq
    | some a =>
      rw [hk] at hq
      cases hq
      have old := hP k (adr a, cE E.2.2.2.1 adr h a) (by unfold wO; rw [List.getElem?_map, hk]; rfl)
      show va_at E.2.2.1 vwCl (adr a, cE E.2.2.2.1 adr h' a) H
      unfold cE at old ⊢
      by_cases c1 : (mt a).1 < 20
      · rw [if_pos c1] at old ⊢
        have eo : oC adr h' (mt a).1 (mt a).2 a = oC adr h (mt a).1 (mt a).2 a := by
          unfold oC
          refine List.map_congr_left fun j hj => ?_
          rw [e2, e1 a j (List.mem_range.mp hj)]
        rw [eo]
        exact old
      · rw [if_neg c1] at old ⊢
        by_cases c2 : (mt a).1 < 23
        · rw [if_pos c2] at old ⊢
          have old2 : H[adr a]? = some (arrV (E.2.2.2.1 (mt a).1) (mt a).2 (fun j => .int (h.1 a j))) := old
          show H[adr a]? = some (arrV (E.2.2.2.1 (mt a).1) (mt a).2 (fun j => .int (h'.1 a j)))
          rw [old2]
          exact congrArg some (arrV_ext (fun j hj => by rw [e1 a j hj]))
        · rw [if_neg c2] at old ⊢
          rw [e2]
          exact old
  · refine ⟨fun i j p q hi hj hp => ?_, fun k q hq => ?_⟩
    · unfold wO at hi hj
      rw [List.getElem?_map] at hi hj
      cases hki : nl[i]? with
      | none => rw [hki] at hi; cases hi
      | some a =>
        cases hkj : nl[j]? with
        | none => rw [hkj] at hj; cases hj
        | some b =>
          rw [hki] at hi
          rw [hkj] at hj
          cases hi
          cases hj
          exact hD.1 i j (adr a, cE E.2.2.2.1 adr h a) (adr b, cE E.2.2.2.1 adr h b) (by unfold wO; rw [List.getElem?_map, hki]; rfl) (by unfold wO; rw [List.getElem?_map, hkj]; rfl) hp
    · unfold wO at hq
      rw [List.getElem?_map] at hq
      cases hk : nl[k]? with
      | none => rw [hk] at hq; cases hq
      | some a =>
        rw [hk] at hq
        cases hq
        exact hD.2 k (adr a, cE E.2.2.2.1 adr h a) (by unfold wO; rw [List.getElem?_map, hk]; rfl)
theorem G.ext {E : En} {y : Mt} {d mc ms : Nat} {Q : Option V → Hp → Prop} {h0 : Hp} {pc : Nat} {L : List (Option V)} {st : List V} {h h' : Hp} {cu su : Nat} (e2 : h'.2 = h.2) (e1 : ∀ a j, j < (mt a).2 → h'.1 a j = h.1 a j) (K : G E y d mc ms Q h0 pc L st h' cu su) : G E y d mc ms Q h0 pc L st h cu su := by
  intro p e s m args below meth c adr0 adr H locs ls CC hE hS hW ho hoL hl
  have a2 : ∀ a, h'.2.2 a = h.2.2 a := fun a => by rw [e2]
  refine K p e s m args below meth c adr0 adr H locs ls CC ⟨fun a q => by rw [a2]; exact hE.1 a q, hE.2.1, hE.2.2⟩ (Sm.ext e2 e1 hS) hW (fun v hv a e => by rw [a2]; exact ho v hv a e) (fun v hv a e => by rw [a2]; exact hoL v hv a e) hl
theorem same_new {s t : State} {L : List Loc} {k n : Nat} (h : s.sameButNew t L k n) (hL : ∀ q ∈ L, s.heap.size ≤ q.base) : s.sameButNew t [] k n := by
  obtain ⟨h1, h2, h3, h4, h5, h6⟩ := h
  refine ⟨h1, h2, h3, h4, h5, fun a c hc => ?_⟩
  obtain ⟨c', g1, g2, g3, g4⟩ := h6 a c hc
  have hlt : a < s.heap.size := (Array.getElem?_eq_some_iff.mp hc).1
  exact ⟨c', g1, g2, g3, fun i _ => g4 i (fun z => absurd (hL _ z) (Nat.not_le.mpr hlt))⟩
