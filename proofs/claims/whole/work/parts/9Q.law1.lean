/-! THE LAW: what lies outside, the script, and the frame of the whole -/
abbrev m_L_law : Mt := (x, cL_law, 4, ret)
def EX (base L : Nat) (xs : Nat → Int32) : (Ad → Nat) → State → Prop := fun adr s => FX base adr s ∧ va_X (adr (90, 0)) L xs s s.heap ∧ ¬ base ≤ adr (90, 0) ∧ adr (90, 0) < s.heap.size
theorem ao_moved {u U : State} (hvm : u.vm.Alike U.vm) (h : (Cond.arrayOver (.array .int)).before #[] u = true) : (Cond.arrayOver (.array .int)).before #[] U = true := by
  simp only [Cond.before, Cond.holds, Cond.value] at h ⊢
  rw [hvm.findClass]
  cases hf : u.vm.findClass (FieldType.array .int).toString with
  | none => rw [hf] at h; simp at h
  | some comp =>
    rw [hf] at h
    simp only [Option.bind_some] at h ⊢
    rw [hvm.findIdx_congr _ (fun _ _ _ _ => rfl)]
    generalize hF : (u.vm.classes.findIdx? fun (x : Class) => match x.kind with | .array component _ => component == comp | _ => false) = fi at h ⊢
    cases fi with
    | none => simp at h
    | some i =>
      simp only [Option.bind_some] at h ⊢
      cases hk : u.vm.classes[i]? with
      | none => rw [hk] at h; simp at h
      | some k =>
        obtain ⟨k', hk', he⟩ := hvm.2.2 _ _ hk
        rw [hk] at h
        rw [hk', hvm.findClass]
        have ek : k'.kind = k.kind := by rw [he]
        simp only [Option.map_some] at h ⊢
        rw [ek]
        exact h
theorem EX_ok {l : Launch} {base L : Nat} {D : va_G} {aC : Nat → ClassId} {xs : Nat → Int32} : EOK (l, base, D, aC, EX base L xs) := by
  refine ⟨fun adr adr' u U hX hW hq ha => ?_, fun adr u U hX hv hh => ?_, fun adr s h => h.1⟩
  · obtain ⟨⟨z1, z2, z3, z4, z5, z6, z7, z8, z9, z10, z11, z12⟩, x1, x2, x3⟩ := hX
    have hvm := hW.alike
    have hk : ∀ a : Nat, a < u.heap.size → ¬ (fun q => base ≤ q) a → U.heap[a]? = u.heap[a]? := hq
    refine ⟨⟨?_, ?_, ?_, ?_, ?_, ?_, ?_, ?_, (z9.kept hk).moved hvm, z10.moved hvm, ao_moved hvm z11, z12.moved hvm⟩, ?_, ?_, ?_⟩
    · rw [ha (91, 0) (by decide)]; exact (z1.kept hk).moved hvm
    · rw [ha (91, 0) (by decide)]; exact (z2.kept hk).moved hvm
    · rw [ha (94, 0) (by decide)]; exact z3.moved hvm
    · rw [ha (92, 0) (by decide)]; exact z4.warm hW
    · rw [ha (92, 0) (by decide)]; exact (z5.kept hk).moved hvm
    · rw [ha (92, 0) (by decide), ha (93, 0) (by decide)]; exact (z6.kept hk).moved hvm
    · rw [ha (92, 0) (by decide)]; exact (z7.kept hk).moved hvm
    · rw [ha (93, 0) (by decide)]; exact (z8.kept hk).moved hvm
    · rw [ha (90, 0) (by decide)]; exact (x1.kept (hq _ x3 x2)).moved hvm
    · rw [ha (90, 0) (by decide)]; exact x2
    · rw [ha (90, 0) (by decide)]
      obtain ⟨scr, h1, _⟩ := x1.kept (hq _ x3 x2)
      exact (Array.getElem?_eq_some_iff.mp h1).1
  · obtain ⟨⟨z1, z2, z3, z4, z5, z6, z7, z8, z9, z10, z11, z12⟩, x1, x2, x3⟩ := hX
    have hvm : u.vm.Alike U.vm := by rw [hv]; exact Vm.Alike.refl _
    rw [hh] at z1 z2 z5 z6 z7 z8 z9 x1 x3
    exact ⟨⟨z1.moved hvm, z2.moved hvm, z3.moved hvm, z4.same hv.symm, z5.moved hvm, z6.moved hvm, z7.moved hvm, z8.moved hvm, z9.moved hvm, z10.moved hvm, ao_moved hvm z11, z12.moved hvm⟩, x1.moved hvm, x2, x3⟩
/-- the script's words of the world -/
def XS (E : En) (L : Nat) (xs : Nat → Int32) : Prop := ∀ adr s, E.2.2.2.2 adr s → va_X (adr (90, 0)) L xs s s.heap ∧ ¬ E.2.1 ≤ adr (90, 0) ∧ adr (90, 0) < s.heap.size
section GS
variable {E : En} {y : Mt} {d mc ms : Nat} {Q : Option V → Hp → Prop} {h0 : Hp} {pc pc' : Nat} {L : List (Option V)} {st : List V} {h : Hp} {cu su : Nat} {N : Nat} {xs : Nat → Int32}
theorem g_slen (hd : decode y.2.1 pc = .ok (.arraylength, 1)) (hp : pc + 1 = pc') (hX : XS E N xs) (K : G E y d mc ms Q h0 pc' L (vI (nI N) :: st) h cu su) : G E y d mc ms Q h0 pc L (vR (90, 0) :: st) h cu su := by
  subst hp
  intro p e s m args below meth c adr0 adr H locs ls CC hE hS hW ho hoL hl
  obtain ⟨hx, hb, hml, hr, hlk', hown, hnm, hts, hK, hN, hX0, hbs, hok⟩ := id CC
  obtain ⟨x1, x2, x3⟩ := hX adr0 s hX0
  have k2 := K p e s m args below meth c adr0 adr H locs ls CC hE hS hW (okS_I (okS_tl ho)) hoL hl
  have ea : adr (90, 0) = adr0 (90, 0) := hE.2.2 (90, 0) (by decide)
  show W p E.1 e (room d mc ms) s m args below meth c H locs cu su _ (F0 m pc ls (.ref (adr (90, 0)) :: st.map (tv adr)))
  rw [ea]
  exact va_slen hx hb x1 x3 x2 hW hd k2
theorem g_sld {j : Nat} (hd : decode y.2.1 pc = .ok (.iaload, 1)) (hp : pc + 1 = pc') (hX : XS E N xs) (hj : j < N ∧ N < 2 ^ 31) (K : G E y d mc ms Q h0 pc' L (vI (xs j) :: st) h cu su) : G E y d mc ms Q h0 pc L (vI (nI j) :: vR (90, 0) :: st) h cu su := by
  subst hp
  intro p e s m args below meth c adr0 adr H locs ls CC hE hS hW ho hoL hl
  obtain ⟨hx, hb, hml, hr, hlk', hown, hnm, hts, hK, hN, hX0, hbs, hok⟩ := id CC
  obtain ⟨x1, x2, x3⟩ := hX adr0 s hX0
  have k2 := K p e s m args below meth c adr0 adr H locs ls CC hE hS hW (okS_I (okS_t2 ho)) hoL hl
  have ea : adr (90, 0) = adr0 (90, 0) := hE.2.2 (90, 0) (by decide)
  show W p E.1 e (room d mc ms) s m args below meth c H locs cu su _ (F0 m pc ls (.int (nI j) :: .ref (adr (90, 0)) :: st.map (tv adr)))
  rw [ea]
  refine va_sld hx hb x1 x3 x2 hW (vp_in_nI hj.1 hj.2) hd ?_
  rw [nI_clamp (by omega)]
  exact k2
end GS
theorem Cp.mk {m : St} {h h' : Hp} (c : Cp m h) (k : Mk h h') : Cp m h' := by
  have e2 := k.1
  have f : ∀ s, s ≠ 1 → s < 100 → ∀ i, h'.1 (s, i) = h.1 (s, i) := fun s z1 z2 i => k.2 (s, i) z1 z2
  refine ⟨by rw [e2]; exact c.s, by unfold Al; rw [e2]; exact c.e, ?_, ?_, ?_, ?_, ?_, ?_, ?_, ?_, ?_, ?_, ?_, ?_, ?_⟩
  · have q := c.c1
    unfold C1 at *
    simp only [e2, f 0 (by decide) (by decide)]
    exact q
  · have q := c.c2
    unfold C2 at *
    simp only [e2, f 20 (by decide) (by decide)]
    exact q
  · have q := c.c3
    unfold C3 at *
    simp only [e2, f 21 (by decide) (by decide)]
    exact q
  · have q := c.c4
    unfold C4 at *
    simp only [e2, f 22 (by decide) (by decide)]
    exact q
  · have q := c.c5
    unfold C5 Ls at *
    simp only [e2, f 13 (by decide) (by decide), f 2 (by decide) (by decide), f 24 (by decide) (by decide), f 25 (by decide) (by decide)]
    exact q
  · have q := c.c6
    unfold C6 Ls at *
    simp only [e2, f 13 (by decide) (by decide), f 3 (by decide) (by decide), f 26 (by decide) (by decide)]
    exact q
  · have q := c.c7
    unfold C7 at *
    simp only [e2, f 3 (by decide) (by decide), f 27 (by decide) (by decide), f 28 (by decide) (by decide)]
    exact q
  · have q := c.c8
    unfold C8 Ls at *
    simp only [e2, f 13 (by decide) (by decide), f 4 (by decide) (by decide), f 29 (by decide) (by decide)]
    exact q
  · have q := c.c9
    unfold C9 Ls at *
    simp only [e2, f 13 (by decide) (by decide), f 5 (by decide) (by decide), f 30 (by decide) (by decide)]
    exact q
  · have q := c.c10
    unfold C10 at *
    simp only [e2, f 8 (by decide) (by decide), f 31 (by decide) (by decide), f 32 (by decide) (by decide), f 33 (by decide) (by decide), f 34 (by decide) (by decide)]
    exact q
  · have q := c.c11
    unfold C11 at *
    simp only [e2, f 4 (by decide) (by decide), f 23 (by decide) (by decide)]
    exact q
  · have q := c.c12
    unfold C12 CR CT at *
    simp only [e2, f 6 (by decide) (by decide), f 35 (by decide) (by decide), f 36 (by decide) (by decide), f 37 (by decide) (by decide), f 38 (by decide) (by decide), f 39 (by decide) (by decide), f 40 (by decide) (by decide)]
    exact q
  · have q := c.c13
    unfold C13 at *
    simp only [e2, f 46 (by decide) (by decide), f 47 (by decide) (by decide), f 48 (by decide) (by decide), f 58 (by decide) (by decide)]
    exact q
theorem ge6 {L i : Nat} (hL : L ≤ 3072) (hi : i ≤ 4000) (h : ¬ nI L - nI 6 < nI i) : i + 6 ≤ L := by
  rw [Int32.lt_iff_toInt_lt, Int32.toInt_sub, nI_toInt (by omega), nI_toInt (by omega), nI_toInt (by omega), Int.bmod_eq_of_le (by omega) (by omega)] at h
  omega
