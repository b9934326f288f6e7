/-! making cells; the other rules that the class needs -/
def nH (h : Hp) (a : Ad) : Hp := (fun b => if b = a then fun _ => 0 else h.1 b, fun b => if b = a then fun _ => none else h.2.1 b, fun b => if b = a then true else h.2.2 b)
theorem nH_1 (h : Hp) (a : Ad) {b : Ad} (q : b ≠ a) : (nH h a).1 b = h.1 b := if_neg q
theorem nH_2 (h : Hp) (a : Ad) {b : Ad} (q : b ≠ a) : (nH h a).2.1 b = h.2.1 b := if_neg q
theorem nH_a (h : Hp) (a : Ad) {b : Ad} (q : b ≠ a) : (nH h a).2.2 b = h.2.2 b := if_neg q
theorem nH_1s (h : Hp) (a : Ad) : (nH h a).1 a = fun _ => 0 := if_pos rfl
theorem nH_2s (h : Hp) (a : Ad) : (nH h a).2.1 a = fun _ => none := if_pos rfl
theorem nH_as (h : Hp) (a : Ad) : (nH h a).2.2 a = true := if_pos rfl
theorem nH_up {h : Hp} {a : Ad} : ∀ b, h.2.2 b = true → (nH h a).2.2 b = true := fun b q => by
  by_cases e : b = a
  · rw [e]; exact nH_as h a
  · rw [nH_a h a e]; exact q
def adN (adr : Ad → Nat) (a : Ad) (q : Nat) : Ad → Nat := fun b => if b = a then q else adr b
theorem Lat_new {h : Hp} {adr : Ad → Nat} {a : Ad} {q : Nat} (ha : h.2.2 a = false) (hm : (mt a).1 < 25) : Lat h adr (nH h a) (adN adr a q) := ⟨nH_up, fun b hb => if_neg (fun z => by rw [z, ha] at hb; cases hb), fun b hb => if_neg (fun z => by rw [z] at hb; omega)⟩
theorem Sm_new {E : En} {adr : Ad → Nat} {h : Hp} {H1 : Heap} {nl : List Ad} {a : Ad} {q : Nat} (hn : ∀ a, a ∈ nl ↔ h.2.2 a = true ∧ (mt a).1 < 25) (hcl : ∀ a j b, h.2.2 a = true → h.2.1 a j = some b → h.2.2 b = true) (ha : h.2.2 a = false) (hm : (mt a).1 < 25)
    (hP1 : va_P E.2.2.1 vwCl (wO E.2.2.2.1 adr h nl ++ [(q, cE E.2.2.2.1 (adN adr a q) (nH h a) a)]) H1) (hD1 : va_D (eA E) (wO E.2.2.2.1 adr h nl ++ [(q, cE E.2.2.2.1 (adN adr a q) (nH h a) a)])) : Sm E (adN adr a q) (nH h a) H1 := by
  have hna : a ∉ nl := fun z => by have := ((hn a).mp z).1; rw [ha] at this; cases this
  have e := wO_new (aC := E.2.2.2.1) (adr := adr) (h := h) (h' := nH h a) (nl := nl) (a := a) (q := q) hna (fun b hb j x hx z => by have := hcl b j x ((hn b).mp hb).1 hx; rw [z, ha] at this; cases this) (fun b hb => nH_1 h a hb) (fun b hb => nH_2 h a hb)
  have e' : wO E.2.2.2.1 adr h nl ++ [(q, cE E.2.2.2.1 (adN adr a q) (nH h a) a)] = wO E.2.2.2.1 (adN adr a q) (nH h a) (nl ++ [a]) := e
  rw [e'] at hP1 hD1
  refine ⟨⟨nl ++ [a], fun b => ?_, hP1, hD1⟩, fun b j x hb hx => ?_⟩
  · rw [List.mem_append]
    by_cases z : b = a
    · subst z
      exact ⟨fun _ => ⟨nH_as h b, hm⟩, fun _ => Or.inr (List.mem_singleton.mpr rfl)⟩
    · rw [nH_a h a z, hn b]
      exact ⟨fun w => w.elim id (fun w => absurd (List.mem_singleton.mp w) z), fun w => Or.inl w⟩
  · by_cases z : b = a
    · subst z
      rw [nH_2s] at hx
      cases hx
    · rw [nH_2 h a z] at hx
      rw [nH_a h a z] at hb
      exact nH_up x (hcl b j x hb hx)
section GW
variable {E : En} {y : Mt} {d mc ms : Nat} {Q : Option V → Hp → Prop} {h0 : Hp} {pc pc' : Nat} {L : List (Option V)} {st : List V} {h : Hp} {cu su : Nat}
theorem g_new {n ci N : Nat} {C : String} {T : u_T} (a : Ad) (ha : h.2.2 a = false) (hd : decode y.2.1 pc = .ok (.new n, 3)) (hp : pc + 3 = pc') (hm : mt a = (ci, N)) (hck : CK ci C T N) (w1 : Cond.classLink y.1.cls n C ∈ tw) (w2 : Cond.instantiable C N ∈ tw) (w3 : Cond.initialized C ∈ tw) (hc : cu + 1 ≤ mc) (hs : su + N ≤ ms) (K : G E y d mc ms Q h0 pc' L (vR a :: st) (nH h a) (cu + 1) (su + N)) : G E y d mc ms Q h0 pc L st h cu su := by
  subst hp
  intro p e s m args below meth c adr0 adr H locs ls CC hE hS hW ho hoL hl
  obtain ⟨hx, hb, hml, hr, hlk', hown, hnm, hts, hK, hN, hX, hbs, hok⟩ := id CC
  obtain ⟨⟨nl, hn, hP, hD⟩, hcl⟩ := id hS
  obtain ⟨c1, c2, c3, c4, c5, c6⟩ := hck
  have hm25 : (mt a).1 < 25 := by rw [hm]; show ci < 25; omega
  have hfs : ∀ j, j < N → defaultValue (vty ci j) = vp_V (oC adr (nH h a) ci N a) j := fun j hj => by
    rw [c6 j hj]
    unfold vp_V
    rw [List.getD_eq_getElem?_getD, oC_at hj, nH_2s, nH_1s]
    rfl
  refine va_new (C := C) (T := T) (N := N) (ci := ci) (fs := oC adr (nH h a) ci N a) hx hb hts c3 (vty ci) c4 hown (hts _ w1) (hts _ w2) (hts _ w3) hK hP hD hW (fun q hq => Nat.le_trans hbs hq) c1 hfs hc hs hd (fun q H1 hP1 hD1 hS1 => ?_)
  have ee : (.inr (ci, oC adr (nH h a) ci N a) : va_E) = cE E.2.2.2.1 (adN adr a q) (nH h a) a := by
    rw [cE_O hm c2]
    unfold oC
    simp only [nH_2s]
    rfl
  rw [ee] at hP1 hD1
  have hlat := Lat_new (adr := adr) (q := q) ha hm25
  have k2 := K p e s m args below meth c adr0 (adN adr a q) H1 locs ls CC (hE.tr hlat) (Sm_new hn hcl ha hm25 hP1 hD1) hS1 (okS_cons (okV_R (nH_as h a)) (okS_mono hlat.1 ho)) (okL_mono hlat.1 hoL) (hl.mono hlat.2.1 hoL)
  have es : (vR a :: st).map (tv (adN adr a q)) = .ref q :: st.map (tv adr) := by
    rw [List.map_cons, tvS_same hlat.2.1 ho]
    exact congrArg (fun z => Value.ref z :: st.map (tv adr)) (if_pos rfl)
  rw [es] at k2
  exact k2
/-- what the tables say of an array class names it -/
theorem va_RA_one {U : State} {c1 c2 : ClassId} {ty : FieldType} (h1 : va_RA U c1 ty) (h2 : va_RA U c2 ty) : c1 = c2 := by
  cases ty with
  | object C =>
    obtain ⟨_, _, _, _, _, e1⟩ := h1
    obtain ⟨_, _, _, _, _, e2⟩ := h2
    exact Option.some.inj (e1.symm.trans e2)
  | _ => exact Option.some.inj (h1.symm.trans h2)
theorem g_newa {k N : Nat} {at_ : ArrayType} {ty : FieldType} {t0 : Nat} (a : Ad) (ha : h.2.2 a = false) (hd : decode y.2.1 pc = .ok (.newarray at_, 2)) (hp : pc + 2 = pc') (hm : mt a = (k, N)) (hk : 20 ≤ k ∧ k < 23) (hty : newarray.typeOf at_ = ty) (ht : ∀ aC : Nat → ClassId, (tys aC)[t0]? = some (aC k, ty)) (w1 : Cond.arrayClass ty ∈ lw_tbl) (hdf : defaultValue ty = .int 0) (hN : N < 1000) (hby : N * componentBytes ty ≤ 536870912) (hc : cu + 1 ≤ mc) (hs : su + N ≤ ms) (w1' : Cond.arrayClass ty ∈ tw) (K : G E y d mc ms Q h0 pc' L (vR a :: st) (nH h a) (cu + 1) (su + N)) : G E y d mc ms Q h0 pc L (vI (nI N) :: st) h cu su := by
  subst hp
  intro p e s m args below meth c adr0 adr H locs ls CC hE hS hW ho hoL hl
  obtain ⟨hx, hb, hml, hr, hlk', hown, hnm, hts, hK, hN', hX, hbs, hok⟩ := id CC
  obtain ⟨⟨nl, hn, hP, hD⟩, hcl⟩ := id hS
  have hm25 : (mt a).1 < 25 := by rw [hm]; show k < 25; omega
  have ho' := okS_tl ho
  refine va_newa (a0 := (N, .inl (fun _ => 0))) hx hb (by rw [hty]; exact hts _ w1') hty hK hP hD hW (fun q hq => Nat.le_trans hbs hq) (fun cA => by rw [hdf]; rfl) (nI_pos (by omega)) (nI_clamp (by omega)) hby hc hs hd (fun q cA H1 hK1 hP1 hD1 hS1 => ?_)
  have hcA : cA = E.2.2.2.1 k := by
    have e1 := (hK.2 t0 _ (ht E.2.2.2.1)).2
    have e2 := (hK1.2 (tys E.2.2.2.1).length (cA, ty) (by rw [List.getElem?_append_right (Nat.le_refl _), Nat.sub_self]; rfl)).2
    exact va_RA_one e2 e1
  subst hcA
  have ee : (.inl (E.2.2.2.1 k, (N, .inl (fun _ => 0))) : va_E) = cE E.2.2.2.1 (adN adr a q) (nH h a) a := by
    rw [cE_A hm hk.1 hk.2, nH_1s]
  rw [ee] at hP1 hD1
  have hlat := Lat_new (adr := adr) (q := q) ha hm25
  have k2 := K p e s m args below meth c adr0 (adN adr a q) H1 locs ls CC (hE.tr hlat) (Sm_new hn hcl ha hm25 hP1 hD1) hS1 (okS_cons (okV_R (nH_as h a)) (okS_mono hlat.1 ho')) (okL_mono hlat.1 hoL) (hl.mono hlat.2.1 hoL)
  have es : (vR a :: st).map (tv (adN adr a q)) = .ref q :: st.map (tv adr) := by
    rw [List.map_cons, tvS_same hlat.2.1 ho']
    exact congrArg (fun z => Value.ref z :: st.map (tv adr)) (if_pos rfl)
  rw [es] at k2
  exact k2
/-- new Object[n] -/
theorem g_newq {n N : Nat} (a : Ad) (ha : h.2.2 a = false) (hd : decode y.2.1 pc = .ok (.anewarray n, 3)) (hp : pc + 3 = pc') (hm : mt a = (23, N)) (w1 : Cond.classLink y.1.cls n "java/lang/Object" ∈ tw) (hN : N < 1000) (hc : cu + 1 ≤ mc) (hs : su + N ≤ ms) (K : G E y d mc ms Q h0 pc' L (vR a :: st) (nH h a) (cu + 1) (su + N)) : G E y d mc ms Q h0 pc L (vI (nI N) :: st) h cu su := by
  subst hp
  intro p e s m args below meth c adr0 adr H locs ls CC hE hS hW ho hoL hl
  obtain ⟨hx, hb, hml, hr, hlk', hown, hnm, hts, hK, hN', hX, hbs, hok⟩ := id CC
  obtain ⟨⟨nl, hn, hP, hD⟩, hcl⟩ := id hS
  have hm25 : (mt a).1 < 25 := by rw [hm]; show 23 < 25; omega
  have ho' := okS_tl ho
  refine va_newq hx hb hown (hts _ w1) (hok.2.2 adr0 s hX).2.2.2.2.2.2.2.2.2.1 hK hP hD hW (fun q hq => Nat.le_trans hbs hq) (nI_pos (by omega)) (nI_clamp (show N < 2 ^ 31 by omega)) (by omega) hc hs hd (fun q cA H1 hK1 hP1 hD1 hS1 => ?_)
  have hcA : cA = E.2.2.2.1 23 := by
    have e1 := (hK.2 3 (E.2.2.2.1 23, .object "java/lang/Object") rfl).2
    have e2 := (hK1.2 (tys E.2.2.2.1).length (cA, .object "java/lang/Object") (by rw [List.getElem?_append_right (Nat.le_refl _), Nat.sub_self]; rfl)).2
    exact va_RA_one e2 e1
  subst hcA
  have ee : (.inl (E.2.2.2.1 23, N, .inr (.inr (.inr (.inr (fun _ => none))))) : va_E) = cE E.2.2.2.1 (adN adr a q) (nH h a) a := by
    rw [cE_Q hm (by decide), nH_2s]
    rfl
  rw [ee] at hP1 hD1
  have hlat := Lat_new (adr := adr) (q := q) ha hm25
  have k2 := K p e s m args below meth c adr0 (adN adr a q) H1 locs ls CC (hE.tr hlat) (Sm_new hn hcl ha hm25 hP1 hD1) hS1 (okS_cons (okV_R (nH_as h a)) (okS_mono hlat.1 ho')) (okL_mono hlat.1 hoL) (hl.mono hlat.2.1 hoL)
  have es : (vR a :: st).map (tv (adN adr a q)) = .ref q :: st.map (tv adr) := by
    rw [List.map_cons, tvS_same hlat.2.1 ho']
    exact congrArg (fun z => Value.ref z :: st.map (tv adr)) (if_pos rfl)
  rw [es] at k2
  exact k2
/-- Object's own constructor -/
theorem g_objInit {n : Nat} {a : Ad} (hd : decode y.2.1 pc = .ok (.invokespecial n, 3)) (hp : pc + 3 = pc') (w1 : Cond.methodLink y.1.cls n Lib.objectInit ∈ tw) (w2 : Cond.instanceMethod Lib.objectInit ∈ tw) (w3 : Cond.code Lib.objectInit ⟨#[0xb1]⟩ 1 none ∈ tw) (hdd : 1 ≤ d) (hr8 : (st.map fun v => if isL v = true then 2 else 1).sum ≤ 8) (K : G E y d mc ms Q h0 pc' L st h cu su) : G E y d mc ms Q h0 pc L (vR a :: st) h cu su := by
  subst hp
  intro p e s m args below meth c adr0 adr H locs ls CC hE hS hW ho hoL hl
  obtain ⟨hx, hb, hml, hr, hlk', hown, hnm, hts, hK, hN, hX, hbs, hok⟩ := id CC
  refine W.objInit hx hb hown (hts _ w1) (hts _ w2) (hts _ w3) rfl (by rw [hml]; exact hl.1) (a := adr a) (rest := st.map (tv adr)) rfl hd hdd ?_ (K p e s m args below meth c adr0 adr H locs ls CC hE hS hW (okS_tl ho) hoL hl)
  have h8 := cat_le (adr := adr) hr8
  show 2 * 0 + _ + 12 ≤ 64 * d
  omega
/-- two names are one place only if they are one name -/
theorem Sm.inj {adr : Ad → Nat} {H : Heap} (hS : Sm E adr h H) {a b : Ad} (ha : h.2.2 a = true) (hb : h.2.2 b = true) (ma : (mt a).1 < 25) (mb : (mt b).1 < 25) (e : adr a = adr b) : a = b := by
  obtain ⟨⟨nl, hn, hP, hD⟩, -⟩ := hS
  obtain ⟨i, hi⟩ := List.getElem?_of_mem ((hn a).mpr ⟨ha, ma⟩)
  obtain ⟨j, hj⟩ := List.getElem?_of_mem ((hn b).mpr ⟨hb, mb⟩)
  have := wO_inj hD hi hj e
  subst this
  exact Option.some.inj (hi.symm.trans hj)
theorem g_acmp_eq {a b : Ad} {off : Int} {tgt : Nat} (hd : decode y.2.1 pc = .ok (.if_acmp .eq off, 3)) (hp : pc + 3 = pc') (ht : (pc : Int) + off = (tgt : Int)) (ma : (mt a).1 < 25) (mb : (mt b).1 < 25) (kt : a = b → G E y d mc ms Q h0 tgt L st h cu su) (kf : ¬ a = b → G E y d mc ms Q h0 pc' L st h cu su) : G E y d mc ms Q h0 pc L (vR b :: vR a :: st) h cu su := by
  subst hp
  intro p e s m args below meth c adr0 adr H locs ls CC hE hS hW ho hoL hl
  obtain ⟨hx, hb, hml, hr, hlk', hown, hnm, hts, hK, hN, hX, hbs, hok⟩ := id CC
  have h1 : h.2.2 b = true := okS_hd ho b rfl
  have h2 : h.2.2 a = true := okS_hd (okS_tl ho) a rfl
  exact lv_acmp_eq (rx := some (adr a)) (ry := some (adr b)) hx hb hd ht (fun q => kt (Sm.inj hS h2 h1 ma mb (Option.some.inj q)) p e s m args below meth c adr0 adr H locs ls CC hE hS hW (okS_t2 ho) hoL hl) (fun q => kf (fun z => q (by rw [z])) p e s m args below meth c adr0 adr H locs ls CC hE hS hW (okS_t2 ho) hoL hl)
theorem g_acmp_ne {a b : Ad} {off : Int} {tgt : Nat} (hd : decode y.2.1 pc = .ok (.if_acmp .ne off, 3)) (hp : pc + 3 = pc') (ht : (pc : Int) + off = (tgt : Int)) (ma : (mt a).1 < 25) (mb : (mt b).1 < 25) (kt : ¬ a = b → G E y d mc ms Q h0 tgt L st h cu su) (kf : a = b → G E y d mc ms Q h0 pc' L st h cu su) : G E y d mc ms Q h0 pc L (vR b :: vR a :: st) h cu su := by
  subst hp
  intro p e s m args below meth c adr0 adr H locs ls CC hE hS hW ho hoL hl
  obtain ⟨hx, hb, hml, hr, hlk', hown, hnm, hts, hK, hN, hX, hbs, hok⟩ := id CC
  have h1 : h.2.2 b = true := okS_hd ho b rfl
  have h2 : h.2.2 a = true := okS_hd (okS_tl ho) a rfl
  exact lv_acmp_ne (rx := some (adr a)) (ry := some (adr b)) hx hb hd ht (fun q => kt (fun z => q (by rw [z])) p e s m args below meth c adr0 adr H locs ls CC hE hS hW (okS_t2 ho) hoL hl) (fun q => kf (Sm.inj hS h2 h1 ma mb (Option.some.inj q)) p e s m args below meth c adr0 adr H locs ls CC hE hS hW (okS_t2 ho) hoL hl)
/-- a cast to the object's own class -/
theorem g_cast {n ci N : Nat} {C : String} {T : u_T} {a : Ad} (hd : decode y.2.1 pc = .ok (.checkcast n, 3)) (hp : pc + 3 = pc') (hm : mt a = (ci, N)) (hck : CK ci C T N) (w1 : Cond.classLink y.1.cls n C ∈ tw) (K : G E y d mc ms Q h0 pc' L (vR a :: st) h cu su) : G E y d mc ms Q h0 pc L (vR a :: st) h cu su := by
  subst hp
  intro p e s m args below meth c adr0 adr H locs ls CC hE hS hW ho hoL hl
  obtain ⟨hx, hb, hml, hr, hlk', hown, hnm, hts, hK, hN, hX, hbs, hok⟩ := id CC
  obtain ⟨⟨nl, hn, hP, hD⟩, hcl⟩ := id hS
  obtain ⟨c1, c2, -⟩ := hck
  have ha : h.2.2 a = true := okS_hd ho a rfl
  obtain ⟨k0, hk0, hw⟩ := Sm.at (E := E) (adr := adr) hn ha (by rw [hm]; show ci < 25; omega)
  rw [cE_O hm c2] at hw
  exact va_castS hx hb hown (hts _ w1) (hK.1 ci _ c1).2 (va_recv hK hP c1 hw) hd (K p e s m args below meth c adr0 adr H locs ls CC hE hS hW ho hoL hl)
/-- an object into an Object[] -/
theorem g_aast {N ci M : Nat} {C : String} {T : u_T} {a v : Ad} {i : Int32} (hd : decode y.2.1 pc = .ok (.aastore, 1)) (hp : pc + 1 = pc') (hm : mt a = (23, N)) (hmv : mt v = (ci, M)) (hck : CK ci C T M) (w1 : Cond.castable C "java/lang/Object" ∈ nwl) (hin : vp_in i N) (K : G E y d mc ms Q h0 pc' L st (wR h a i.toNatClampNeg (some v)) cu su) : G E y d mc ms Q h0 pc L (vR v :: vI i :: vR a :: st) h cu su := by
  subst hp
  intro p e s m args below meth c adr0 adr H locs ls CC hE hS hW ho hoL hl
  obtain ⟨hx, hb, hml, hr, hlk', hown, hnm, hts, hK, hN, hX, hbs, hok⟩ := id CC
  obtain ⟨⟨nl, hn, hP, hD⟩, hcl⟩ := id hS
  obtain ⟨c1, c2, -⟩ := hck
  have hv : h.2.2 v = true := okS_hd ho v rfl
  have ha : h.2.2 a = true := okS_hd (okS_t2 ho) a rfl
  obtain ⟨k0, hk0, hw⟩ := Sm.at (E := E) (adr := adr) hn ha (by rw [hm]; show 23 < 25; omega)
  obtain ⟨k1, hk1, hw1⟩ := Sm.at (E := E) (adr := adr) hn hv (by rw [hmv]; show ci < 25; omega)
  rw [cE_Q hm (by decide)] at hw
  rw [cE_O hmv c2] at hw1
  refine va_astqO hx hb hK hP hD hW k0 3 k1 ci hw rfl (hN _ w1) hw1 c1 hin hd (fun H1 locs1 hP1 hD1 hS1 => ?_)
  have ee : (.inl (E.2.2.2.1 23, N, .inr (.inr (.inr (.inr (va_up (fun j => (h.2.1 a j).map adr) i.toNatClampNeg (some (adr v))))))) : va_E) = cE E.2.2.2.1 adr (wR h a i.toNatClampNeg (some v)) a := by
    rw [cE_Q hm (by decide)]
    have : va_up (fun j => (h.2.1 a j).map adr) i.toNatClampNeg (some (adr v)) = fun j => ((wR h a i.toNatClampNeg (some v)).2.1 a j).map adr := by
      funext j
      rw [wR_at]
      unfold va_up
      by_cases q : j = i.toNatClampNeg
      · rw [if_pos q, if_pos ⟨rfl, q⟩]; rfl
      · rw [if_neg q, if_neg (fun z => q z.2)]
    rw [this]
  rw [ee] at hP1 hD1
  exact K p e s m args below meth c adr0 adr H1 locs1 ls CC hE (Sm_wR hn hD hcl (fun b q => by cases q; exact hv) hk0 hP1 hD1) hS1 (okS_t3 ho) hoL hl
end GW
