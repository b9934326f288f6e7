/-! whole rows: System.arraycopy, clone -/
def wF (h : Hp) (a : Ad) (f : Nat → Int32) : Hp := (fun b => if b = a then f else h.1 b, h.2)
theorem wF_same (h : Hp) (a : Ad) (f : Nat → Int32) : (wF h a f).1 a = f := if_pos rfl
theorem wF_off (h : Hp) (a : Ad) (f : Nat → Int32) {b : Ad} (q : b ≠ a) : (wF h a f).1 b = h.1 b := if_neg q
theorem wd_acs : Cond.static arraycopyName ∈ tw := tm_3 0 rfl rfl
theorem wd_acn : Cond.native arraycopyName ∈ tw := tm_3 1 rfl rfl
theorem wd_sys : Cond.initialized "java/lang/System" ∈ tw := tm_1 17 rfl rfl
theorem wd_cls : Cond.sameMethod "[I" "java/lang/Object" "clone" "()Ljava/lang/Object;" ∈ tw := tm_3 41 rfl rfl
theorem wd_cln : Cond.native ⟨"java/lang/Object", "clone", "()Ljava/lang/Object;"⟩ ∈ tw := tm_3 42 rfl rfl
theorem wd_clo : Cond.castable "[I" "java/lang/Cloneable" ∈ nwl := List.mem_cons_self
theorem cpy_in {f g : Nat → Int32} {n k : Nat} (q : k < n) : va_cpy f g 0 0 n k = f k := by
  unfold va_cpy
  rw [if_pos ⟨Nat.zero_le _, by omega⟩, Nat.zero_add, Nat.sub_zero]
theorem cpy_out {f g : Nat → Int32} {n k : Nat} (q : n ≤ k) : va_cpy f g 0 0 n k = g k := by
  unfold va_cpy
  rw [if_neg (fun z => by omega)]
section GCP
variable {E : En} {y : Mt} {d mc ms : Nat} {Q : Option V → Hp → Prop} {h0 : Hp} {pc pc' : Nat} {L : List (Option V)} {st : List V} {h : Hp} {cu su : Nat}
theorem Sm_wF {adr : Ad → Nat} {H1 : Heap} {nl : List Ad} {a : Ad} {k : Nat} {f : Nat → Int32} (hn : ∀ a, a ∈ nl ↔ h.2.2 a = true ∧ (mt a).1 < 25) (hD : va_D (eA E) (wO E.2.2.2.1 adr h nl)) (hcl : ∀ a j b, h.2.2 a = true → h.2.1 a j = some b → h.2.2 b = true) (hk : nl[k]? = some a)
    (hP1 : va_P E.2.2.1 vwCl ((wO E.2.2.2.1 adr h nl).set k (adr a, cE E.2.2.2.1 adr (wF h a f) a)) H1) (hD1 : va_D (eA E) ((wO E.2.2.2.1 adr h nl).set k (adr a, cE E.2.2.2.1 adr (wF h a f) a))) : Sm E adr (wF h a f) H1 := by
  have e := wO_set (h' := wF h a f) hD hk (fun b q => wF_off h a f q) (fun _ _ => rfl)
  rw [e] at hP1 hD1
  exact ⟨⟨nl, hn, hP1, hD1⟩, hcl⟩
theorem g_copyI {k n0 n1 n : Nat} {a0 a : Ad} (hd : decode y.2.1 pc = .ok (.invokestatic k, 3)) (hp : pc + 3 = pc') (hm0 : mt a0 = (20, n0)) (hm : mt a = (20, n1)) (w1 : Cond.methodLink y.1.cls k arraycopyName ∈ tw) (h4 : n ≤ n0) (h5 : n ≤ n1) (hn1 : n < 1000) (hdd : 1 ≤ d) (hr8 : (st.map fun v => if isL v = true then 2 else 1).sum ≤ 8) (K : G E y d mc ms Q h0 pc' L st (wF h a (va_cpy (h.1 a0) (h.1 a) 0 0 n)) cu su) : G E y d mc ms Q h0 pc L (vI (nI n) :: vI (nI 0) :: vR a :: vI (nI 0) :: vR a0 :: st) h cu su := by
  subst hp
  intro p e s m args below meth c adr0 adr H locs ls CC hE hS hW ho hoL hl
  obtain ⟨hx, hb, hml, hr, hlk', hown, hnm, hts, hK, hN, hX, hbs, hok⟩ := id CC
  obtain ⟨⟨nl, hn, hP, hD⟩, hcl⟩ := id hS
  have ha : h.2.2 a = true := okS_hd (okS_t2 ho) a rfl
  have ha0 : h.2.2 a0 = true := okS_hd (okS_t2 (okS_t2 ho)) a0 rfl
  obtain ⟨k1, hk1, hw1⟩ := Sm.at (E := E) (adr := adr) hn ha (by rw [hm]; show 20 < 25; omega)
  obtain ⟨k0, hk0, hw0⟩ := Sm.at (E := E) (adr := adr) hn ha0 (by rw [hm0]; show 20 < 25; omega)
  rw [cE_A hm (by decide) (by decide)] at hw1
  rw [cE_A hm0 (by decide) (by decide)] at hw0
  have h8 := cat_le (adr := adr) hr8
  have c0 : (nI 0).toNatClampNeg = 0 := nI_clamp (by decide)
  have cn : (nI n).toNatClampNeg = n := nI_clamp (by omega)
  refine va_copyi hx hb (hml.trans hl.1.symm) hown (hts _ w1) (hts _ wd_acn) (hts _ wd_acs) (hts _ wd_sys) hK hP hD hW k0 k1 0 0 hw0 hw1 rfl rfl rfl (nI_pos (by decide)) (nI_pos (by decide)) (nI_pos (by omega)) (by rw [c0, cn]; omega) (by rw [c0, cn]; omega) (fun i _ => rfl) hdd ?_ hd (fun H1 locs1 hP1 hD1 hS1 => ?_)
  · have e18 : nativeFrameWords "java/lang/System" "arraycopy" 5 = 7 := by decide
    rw [e18]
    show _ ≤ 64 * d
    omega
  rw [c0, cn] at hP1 hD1
  have ee : cE E.2.2.2.1 adr (wF h a (va_cpy (h.1 a0) (h.1 a) 0 0 n)) a = .inl (E.2.2.2.1 20, n1, .inl (va_cpy (h.1 a0) (h.1 a) 0 0 n)) := by
    rw [cE_A hm (by decide) (by decide), wF_same]
  rw [← ee] at hP1 hD1
  exact K p e s m args below meth c adr0 adr H1 locs1 ls CC hE (Sm_wF hn hD hcl hk1 hP1 hD1) hS1 (okS_tl (okS_t2 (okS_t2 ho))) hoL hl
theorem g_clone {k N : Nat} {a0 : Ad} (a : Ad) (ha : h.2.2 a = false) (hd : decode y.2.1 pc = .ok (.invokevirtual k, 3)) (hp : pc + 3 = pc') (hm0 : mt a0 = (20, N)) (hm : mt a = (20, N)) (w1 : Cond.methodLink y.1.cls k ⟨"[I", "clone", "()Ljava/lang/Object;"⟩ ∈ tw) (hdd : 1 ≤ d) (hr8 : (st.map fun v => if isL v = true then 2 else 1).sum ≤ 8) (hc : cu + 1 ≤ mc) (hs : su + N ≤ ms) (K : G E y d mc ms Q h0 pc' L (vR a :: st) (wF (nH h a) a (h.1 a0)) (cu + 1) (su + N)) : G E y d mc ms Q h0 pc L (vR a0 :: st) h cu su := by
  subst hp
  intro p e s m args below meth c adr0 adr H locs ls CC hE hS hW ho hoL hl
  obtain ⟨hx, hb, hml, hr, hlk', hown, hnm, hts, hK, hN, hX, hbs, hok⟩ := id CC
  obtain ⟨⟨nl, hn, hP, hD⟩, hcl⟩ := id hS
  have ha0 : h.2.2 a0 = true := okS_hd ho a0 rfl
  have ho' := okS_tl ho
  have hm25 : (mt a).1 < 25 := by rw [hm]; show 20 < 25; omega
  obtain ⟨k0, hk0, hw0⟩ := Sm.at (E := E) (adr := adr) hn ha0 (by rw [hm0]; show 20 < 25; omega)
  rw [cE_A hm0 (by decide) (by decide)] at hw0
  have h8 := cat_le (adr := adr) hr8
  have hnmI : s.vm.findClass "[I" = some (E.2.2.2.1 20) := by
    have q := (hK.2 0 (E.2.2.2.1 20, .int) rfl).2
    have z : ("[" ++ FieldType.int.toString) = "[I" := by decide
    unfold va_RA at q
    simp only at q
    rw [z] at q
    exact q
  refine va_clone hx hb (hml.trans hl.1.symm) hown (hts _ w1) (hts _ wd_cls) (hts _ wd_cln) (hts _ im_zz523) (hts _ slx_524) (hN _ wd_clo) hK hP hD hW (fun q hq => Nat.le_trans hbs hq) k0 0 hw0 rfl hnmI (fun i v hv => ?_) hdd (by show _ ≤ 64 * d; omega) hc hs hd (fun q H1 hK1 hP1 hD1 hS1 => ?_)
  · have hsz : i < N := by
      have z := (Array.getElem?_eq_some_iff.mp hv).1
      have z2 : (vp_cell (E.2.2.2.1 20) (N, .inl (h.1 a0))).slots.size = N := arrV_size _ _ _
      omega
    have z : (vp_cell (E.2.2.2.1 20) (N, .inl (h.1 a0))).slots[i]? = some (.int (h.1 a0 i)) := arrV_read _ _ hsz
    rw [z] at hv
    cases hv
    rfl
  have ee : (.inl (E.2.2.2.1 20, N, .inl (h.1 a0)) : va_E) = cE E.2.2.2.1 (adN adr a q) (wF (nH h a) a (h.1 a0)) a := by
    rw [cE_A hm (by decide) (by decide), wF_same]
  rw [ee] at hP1 hD1
  have hlat := Lat_new (adr := adr) (q := q) ha hm25
  have hw1 : wO E.2.2.2.1 adr h nl ++ [(q, cE E.2.2.2.1 (adN adr a q) (wF (nH h a) a (h.1 a0)) a)] = wO E.2.2.2.1 (adN adr a q) (wF (nH h a) a (h.1 a0)) (nl ++ [a]) :=
    wO_new (fun z => by have := (hn a).mp z; rw [ha] at this; exact absurd this.1 (by decide)) (fun b hb j x hx1 z => by rw [z] at hx1; have := hcl b j a ((hn b).mp hb).1 hx1; rw [ha] at this; cases this) (fun b q => (wF_off _ _ _ q).trans (nH_1 h a q)) (fun b q => nH_2 h a q)
  rw [hw1] at hP1 hD1
  have hSm : Sm E (adN adr a q) (wF (nH h a) a (h.1 a0)) H1 := by
    refine ⟨⟨nl ++ [a], fun b => ?_, hP1, hD1⟩, fun b j x hb hx1 => ?_⟩
    · show _ ↔ (nH h a).2.2 b = true ∧ _
      rw [List.mem_append, hn b, List.mem_singleton]
      by_cases z : b = a
      · subst z
        rw [nH_as]
        exact ⟨fun _ => ⟨rfl, hm25⟩, fun _ => Or.inr rfl⟩
      · rw [nH_a h a z]
        exact ⟨fun y => y.resolve_right z, Or.inl⟩
    · have hb' : (nH h a).2.2 b = true := hb
      have hx' : (nH h a).2.1 b j = some x := hx1
      show (nH h a).2.2 x = true
      by_cases z : b = a
      · subst z
        rw [nH_2s] at hx'
        cases hx'
      · rw [nH_2 h a z] at hx'
        rw [nH_a h a z] at hb'
        exact nH_up x (hcl b j x hb' hx')
  have k2 := K p e s m args below meth c adr0 (adN adr a q) H1 locs ls CC (hE.tr hlat) hSm hS1 (okS_cons (okV_R (nH_as h a)) (okS_mono hlat.1 ho')) (okL_mono hlat.1 hoL) (hl.mono hlat.2.1 hoL)
  have es : (vR a :: st).map (tv (adN adr a q)) = .ref q :: st.map (tv adr) := by
    rw [List.map_cons, tvS_same hlat.2.1 ho']
    exact congrArg (fun z => Value.ref z :: st.map (tv adr)) (if_pos rfl)
  rw [es] at k2
  exact k2
end GCP
