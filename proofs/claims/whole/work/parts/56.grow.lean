/-! lists that grow -/
def wQ (h : Hp) (a : Ad) (f : Nat → Option Ad) : Hp := (h.1, fun b => if b = a then f else h.2.1 b, h.2.2)
theorem wQ_same (h : Hp) (a : Ad) (f : Nat → Option Ad) : (wQ h a f).2.1 a = f := if_pos rfl
theorem wQ_off (h : Hp) (a : Ad) (f : Nat → Option Ad) {b : Ad} (q : b ≠ a) : (wQ h a f).2.1 b = h.2.1 b := if_neg q
theorem wd_gcm : Cond.methodLink RJ7 86 ⟨"java/lang/Object", "getClass", "()Ljava/lang/Class;"⟩ ∈ tw := tm_2 212 rfl rfl
theorem wd_gci : Cond.instanceMethod ⟨"java/lang/Object", "getClass", "()Ljava/lang/Class;"⟩ ∈ tw := tm_2 213 rfl rfl
theorem wd_gcn : Cond.native ⟨"java/lang/Object", "getClass", "()Ljava/lang/Class;"⟩ ∈ tw := tm_2 229 rfl rfl
theorem wd_gcs : Cond.selects "[Ljava/lang/Object;" ⟨"java/lang/Object", "getClass", "()Ljava/lang/Class;"⟩ ⟨"java/lang/Object", "getClass", "()Ljava/lang/Class;"⟩ ∈ tw := tm_9 162 rfl rfl
theorem wd_gcl : Cond.classLink RJ7 110 "[Ljava/lang/Object;" ∈ tw := tm_2 233 rfl rfl
section GQ
variable {E : En} {y : Mt} {d mc ms : Nat} {Q : Option V → Hp → Prop} {h0 : Hp} {pc pc' : Nat} {L : List (Option V)} {st : List V} {h : Hp} {cu su : Nat}
theorem ob_cls {E : En} {s : State} (hK : va_K E.2.2.1 vwCl (tys E.2.2.2.1) s) : s.vm.findClass "[Ljava/lang/Object;" = some (E.2.2.2.1 23) := by
  obtain ⟨kA, comp, -, -, -, q⟩ := (hK.2 3 (E.2.2.2.1 23, .object "java/lang/Object") rfl).2
  have z : ("[" ++ (FieldType.object "java/lang/Object").toString) = "[Ljava/lang/Object;" := by decide
  rw [z] at q
  exact q
theorem g_getC {n N : Nat} {a : Ad} (h94 : h.2.2 (94, 0) = true) (hd : decode y.2.1 pc = .ok (.invokevirtual n, 3)) (hp : pc + 3 = pc') (hm : mt a = (23, N)) (w1 : Cond.methodLink y.1.cls n ⟨"java/lang/Object", "getClass", "()Ljava/lang/Class;"⟩ ∈ tw) (hdd : 1 ≤ d) (hr8 : (st.map fun v => if isL v = true then 2 else 1).sum ≤ 8) (K : G E y d mc ms Q h0 pc' L (vR (94, 0) :: st) h cu su) : G E y d mc ms Q h0 pc L (vR a :: st) h cu su := by
  subst hp
  intro p e s m args below meth c adr0 adr H locs ls CC hE hS hW ho hoL hl
  obtain ⟨hx, hb, hml, hr, hlk', hown, hnm, hts, hK, hN, hX, hbs, hok⟩ := id CC
  obtain ⟨⟨nl, hn, hP, hD⟩, hcl⟩ := id hS
  have ha : h.2.2 a = true := okS_hd ho a rfl
  obtain ⟨k0, hk0, hw⟩ := Sm.at (E := E) (adr := adr) hn ha (by rw [hm]; show 23 < 25; omega)
  rw [cE_Q hm (by decide)] at hw
  have hFX := hok.2.2 adr0 s hX
  have ea : adr (94, 0) = adr0 (94, 0) := hE.2.2 (94, 0) (by decide)
  have h8 := cat_le (adr := adr) hr8
  have k2 := K p e s m args below meth c adr0 adr H locs ls CC hE hS hW (okS_cons (okV_R h94) (okS_tl ho)) hoL hl
  have es : (vR (94, 0) :: st).map (tv adr) = .ref (adr0 (94, 0)) :: st.map (tv adr) := by
    rw [List.map_cons]
    exact congrArg (fun z => Value.ref z :: st.map (tv adr)) ea
  rw [es] at k2
  exact va_getC hx hb (hml.trans hl.1.symm) hown (hts _ w1) (va_Dc.use hFX.2.2.2.2.2.2.2.2.2.2.2) (hts _ wd_gcs) (hts _ wd_gci) (hts _ wd_gcn) hFX.2.2.1 ⟨_, hP k0 _ hw, rfl, ob_cls hK⟩ hdd (by show _ ≤ 64 * d; omega) hd k2
theorem g_ldcM {n : Nat} (h94 : h.2.2 (94, 0) = true) (hd : decode y.2.1 pc = .ok (.ldc n, 2)) (hp : pc + 2 = pc') (w1 : Cond.classLink y.1.cls n "[Ljava/lang/Object;" ∈ tw) (K : G E y d mc ms Q h0 pc' L (vR (94, 0) :: st) h cu su) : G E y d mc ms Q h0 pc L st h cu su := by
  subst hp
  intro p e s m args below meth c adr0 adr H locs ls CC hE hS hW ho hoL hl
  obtain ⟨hx, hb, hml, hr, hlk', hown, hnm, hts, hK, hN, hX, hbs, hok⟩ := id CC
  have hFX := hok.2.2 adr0 s hX
  have ea : adr (94, 0) = adr0 (94, 0) := hE.2.2 (94, 0) (by decide)
  have k2 := K p e s m args below meth c adr0 adr H locs ls CC hE hS hW (okS_cons (okV_R h94) ho) hoL hl
  have es : (vR (94, 0) :: st).map (tv adr) = .ref (adr0 (94, 0)) :: st.map (tv adr) := by
    rw [List.map_cons]
    exact congrArg (fun z => Value.ref z :: st.map (tv adr)) ea
  rw [es] at k2
  exact va_ldcM hx hb hown (hts _ w1) hFX.2.2.1 hd k2
theorem g_acmp_sameN {a : Ad} {off : Int} {tgt : Nat} (hd : decode y.2.1 pc = .ok (.if_acmp .ne off, 3)) (hp : pc + 3 = pc') (ht : (pc : Int) + off = (tgt : Int)) (K : G E y d mc ms Q h0 pc' L st h cu su) : G E y d mc ms Q h0 pc L (vR a :: vR a :: st) h cu su := by
  subst hp
  intro p e s m args below meth c adr0 adr H locs ls CC hE hS hW ho hoL hl
  obtain ⟨hx, hb, hml, hr, hlk', hown, hnm, hts, hK, hN, hX, hbs, hok⟩ := id CC
  exact lv_acmp_ne (rx := some (adr a)) (ry := some (adr a)) hx hb hd ht (fun q => absurd rfl q) (fun _ => K p e s m args below meth c adr0 adr H locs ls CC hE hS hW (okS_t2 ho) hoL hl)
theorem g_copyQ {k n0 n1 n ci M : Nat} {C : String} {T : u_T} {a0 a : Ad} (hd : decode y.2.1 pc = .ok (.invokestatic k, 3)) (hp : pc + 3 = pc') (hm0 : mt a0 = (23, n0)) (hm : mt a = (23, n1)) (w1 : Cond.methodLink y.1.cls k arraycopyName ∈ tw) (h4 : n ≤ n0) (h5 : n ≤ n1) (hn1 : n < 1000) (hdd : 1 ≤ d) (hr8 : (st.map fun v => if isL v = true then 2 else 1).sum ≤ 8)
    (hck : CK ci C T M) (hca : Cond.castable C "java/lang/Object" ∈ nwl) (hel : ∀ j b, j < n → h.2.1 a0 j = some b → mt b = (ci, M)) (K : G E y d mc ms Q h0 pc' L st (wQ h a (va_cpy (h.2.1 a0) (h.2.1 a) 0 0 n)) cu su) : G E y d mc ms Q h0 pc L (vI (nI n) :: vI (nI 0) :: vR a :: vI (nI 0) :: vR a0 :: st) h cu su := by
  subst hp
  intro p e s m args below meth c adr0 adr H locs ls CC hE hS hW ho hoL hl
  obtain ⟨hx, hb, hml, hr, hlk', hown, hnm, hts, hK, hN, hX, hbs, hok⟩ := id CC
  obtain ⟨⟨nl, hn, hP, hD⟩, hcl⟩ := id hS
  obtain ⟨c1, c2, -⟩ := hck
  have ha : h.2.2 a = true := okS_hd (okS_t2 ho) a rfl
  have ha0 : h.2.2 a0 = true := okS_hd (okS_t2 (okS_t2 ho)) a0 rfl
  obtain ⟨k1, hk1, hw1⟩ := Sm.at (E := E) (adr := adr) hn ha (by rw [hm]; show 23 < 25; omega)
  obtain ⟨k0, hk0, hw0⟩ := Sm.at (E := E) (adr := adr) hn ha0 (by rw [hm0]; show 23 < 25; omega)
  rw [cE_Q hm (by decide)] at hw1
  rw [cE_Q hm0 (by decide)] at hw0
  have h8 := cat_le (adr := adr) hr8
  have e0 : (nI 0).toNatClampNeg = 0 := nI_clamp (by decide)
  have en : (nI n).toNatClampNeg = n := nI_clamp (by omega)
  obtain ⟨z0, z1, f1, f2, f3⟩ := Cond.castable_spec (va_Nw.use (A := args) rfl (hN _ hca))
  refine va_copyq (C := C) (E0 := "java/lang/Object") (E1 := "java/lang/Object") hx hb (hml.trans hl.1.symm) hown (hts _ w1) (hts _ wd_acn) (hts _ wd_acs) (hts _ wd_sys) hK hP hD hW k0 k1 3 3 hw0 hw1 rfl rfl (nI_pos (by decide)) (nI_pos (by decide)) (nI_pos (by omega)) (by rw [e0, en]; omega) (by rw [e0, en]; omega) (fun i hi y hy => ?_) (fun comp c0 q1 q2 => ?_) hdd ?_ hd (fun H1 locs1 hP1 hD1 hS1 => ?_)
  · rw [en] at hi
    rw [e0, Nat.zero_add] at hy
    cases hb0 : h.2.1 a0 i with
    | none => rw [hb0] at hy; cases hy
    | some b =>
      rw [hb0] at hy
      cases hy
      have hmb := hel i b hi hb0
      have hbl : h.2.2 b = true := hcl a0 i b ha0 hb0
      obtain ⟨k2, hk2, hw2⟩ := Sm.at (E := E) (adr := adr) hn hbl (by rw [hmb]; show ci < 25; omega)
      rw [cE_O hmb c2] at hw2
      exact va_recv hK hP c1 hw2
  · cases q1.symm.trans f2
    cases q2.symm.trans f1
    exact f3
  · have e18 : nativeFrameWords "java/lang/System" "arraycopy" 5 = 7 := by decide
    rw [e18]
    show _ ≤ 64 * d
    omega
  rw [e0, en] at hP1 hD1
  have ef : va_cpy (fun j => (h.2.1 a0 j).map adr) (fun j => (h.2.1 a j).map adr) 0 0 n = fun j => ((wQ h a (va_cpy (h.2.1 a0) (h.2.1 a) 0 0 n)).2.1 a j).map adr := by
    funext j
    rw [wQ_same]
    unfold va_cpy
    by_cases q : 0 ≤ j ∧ j < 0 + n
    · rw [if_pos q, if_pos q]
    · rw [if_neg q, if_neg q]
  have ee : cE E.2.2.2.1 adr (wQ h a (va_cpy (h.2.1 a0) (h.2.1 a) 0 0 n)) a = .inl (E.2.2.2.1 23, n1, .inr (.inr (.inr (.inr (va_cpy (fun j => (h.2.1 a0 j).map adr) (fun j => (h.2.1 a j).map adr) 0 0 n))))) := by
    rw [cE_Q hm (by decide), ef]
  rw [← ee] at hP1 hD1
  have hse := wO_set (h' := wQ h a (va_cpy (h.2.1 a0) (h.2.1 a) 0 0 n)) hD hk1 (fun _ _ => rfl) (fun b q => wQ_off h a _ q)
  rw [hse] at hP1 hD1
  refine K p e s m args below meth c adr0 adr H1 locs1 ls CC hE ⟨⟨nl, hn, hP1, hD1⟩, fun b j x hbl hx1 => ?_⟩ hS1 (okS_tl (okS_t2 (okS_t2 ho))) hoL hl
  by_cases z : b = a
  · subst z
    rw [wQ_same] at hx1
    unfold va_cpy at hx1
    split at hx1
    · exact hcl a0 _ x ha0 hx1
    · exact hcl b j x ha hx1
  · rw [wQ_off h a _ z] at hx1
    exact hcl b j x hbl hx1
end GQ
theorem wd_toyc : Cond.castable "ToyHouse$Toy" "java/lang/Object" ∈ nwl := by unfold nwl; repeat (first | exact List.mem_cons_self | apply List.mem_cons_of_mem)
theorem wd_kinc : Cond.castable "ToyHouse$Kind" "java/lang/Object" ∈ nwl := by unfold nwl; repeat (first | exact List.mem_cons_self | apply List.mem_cons_of_mem)
theorem wd_famc : Cond.castable "ToyHouse$Family" "java/lang/Object" ∈ nwl := by unfold nwl; repeat (first | exact List.mem_cons_self | apply List.mem_cons_of_mem)
theorem wd_recc : Cond.castable "ToyHouse$Recall" "java/lang/Object" ∈ nwl := by unfold nwl; repeat (first | exact List.mem_cons_self | apply List.mem_cons_of_mem)
set_option maxRecDepth 4000 in
theorem li_nlA {E : En} (hok : EOK E) {h : Hp}  : Call E m_J8_newLength_cabcc 1 0 0 [vI (nI 10), vI (nI 1), vI (nI 5)] h (fun r0 h' => r0 = some (vI (nI 15)) ∧ h = h') := by
  refine Call.enter hok (by decide) (Nat.le_of_ble_eq_true rfl) ?_
  show G E m_J8_newLength_cabcc 1 0 0 _ h 0 [some (vI (nI 10)), some (vI (nI 1)), some (vI (nI 5)), none] [] h 0 0
  refine g_iload_n (pc' := 1) dJ8_newLength_cabcc_0 rfl rfl ?_
  refine g_iload_n (pc' := 2) dJ8_newLength_cabcc_1 rfl rfl ?_
  refine g_iload_n (pc' := 3) dJ8_newLength_cabcc_2 rfl rfl ?_
  refine g_max (pc' := 6) dJ8_newLength_cabcc_3 rfl ml_J8_194 mx_s in_J9 mx_c (by omega) (by decide) (by decide) (Nat.le_of_ble_eq_true rfl) ?_
  rw [show (if nI 1 < nI 5 then nI 5 else nI 1) = nI 5 from by decide]
  refine g_iaddN (pc' := 7) dJ8_newLength_cabcc_6 rfl ?_
  refine g_istore_n (pc' := 8) dJ8_newLength_cabcc_7 rfl (by decide) rfl ?_
  try simp only [List.set]
  refine g_iconstN (n := 0) (pc' := 9) dJ8_newLength_cabcc_8 rfl ?_
  refine g_iload_n (pc' := 10) dJ8_newLength_cabcc_9 rfl rfl ?_
  refine g_icmp_geN (tgt := 21) (pc' := 13) dJ8_newLength_cabcc_10 rfl (by decide) (by omega) (by omega) (fun c10 => ?_) (fun c10 => ?_)
  · exact absurd c10 (by omega)
  ·
    refine g_iload_n (pc' := 14) dJ8_newLength_cabcc_13 rfl rfl ?_
    refine g_ldc (pc' := 16) dJ8_newLength_cabcc_14 rfl kc_J8_200 ?_
    refine g_icmp_gt (tgt := 21) (pc' := 19) dJ8_newLength_cabcc_16 rfl (by decide) (fun c16 => ?_) (fun c16 => ?_)
    · exact absurd c16 (by decide)
    ·
      refine g_iload_n (pc' := 20) dJ8_newLength_cabcc_19 rfl rfl ?_
      refine g_iret dJ8_newLength_cabcc_20 rfl (by decide) (by decide) ?_
      exact ⟨rfl, rfl⟩
set_option maxRecDepth 4000 in
theorem li_cp3A {E : En} (hok : EOK E) {h : Hp} {i : Nat} (h94 : h.2.2 (94, 0) = true) (hf : h.2.2 (62, i) = false) (hel : ∀ j b, j < 10 → h.2.1 (61, i) j = some b → mt b = (9, 15)) : Call E m_J7_copyOf_6403c 1 1 15 [vR (61, i), vI (nI 15), vR (94, 0)] h (fun r h' => r = some (vR (62, i)) ∧ wQ (nH h (62, i)) (62, i) (va_cpy (h.2.1 (61, i)) (fun _ => none) 0 0 10) = h') := by
  refine Call.enter hok (by decide) (Nat.le_of_ble_eq_true rfl) ?_
  show G E m_J7_copyOf_6403c 1 1 15 _ h 0 [some (vR (61, i)), some (vI (nI 15)), some (vR (94, 0)), none] [] h 0 0
  refine g_aload_n (pc' := 1) dJ7_copyOf_6403c_0 rfl rfl ?_
  refine g_ldcM (pc' := 3) h94 dJ7_copyOf_6403c_1 rfl wd_gcl ?_
  refine g_acmp_sameN (tgt := 13) (pc' := 6) dJ7_copyOf_6403c_3 rfl (by decide) ?_
  refine g_iload_n (pc' := 7) dJ7_copyOf_6403c_6 rfl rfl ?_
  refine g_newq (62, i) hf (pc' := 10) dJ7_copyOf_6403c_7 rfl rfl cl_J7_2 (by decide) (by decide) (by decide) ?_
  refine g_goto (tgt := 24) dJ7_copyOf_6403c_10 (by decide) ?_
  refine g_astore_n (pc' := 25) dJ7_copyOf_6403c_24 rfl (by decide) rfl ?_
  try simp only [List.set]
  refine g_aload_n (pc' := 26) dJ7_copyOf_6403c_25 rfl rfl ?_
  refine g_iconstN (n := 0) (pc' := 27) dJ7_copyOf_6403c_26 rfl ?_
  refine g_aload_n (pc' := 28) dJ7_copyOf_6403c_27 rfl rfl ?_
  refine g_iconstN (n := 0) (pc' := 29) dJ7_copyOf_6403c_28 rfl ?_
  refine g_aload_n (pc' := 30) dJ7_copyOf_6403c_29 rfl rfl ?_
  refine g_alen (pc' := 31) (v := nI 10) dJ7_copyOf_6403c_30 rfl rfl (by decide) rfl ?_
  refine g_iload_n (pc' := 32) dJ7_copyOf_6403c_31 rfl rfl ?_
  refine g_min (pc' := 35) dJ7_copyOf_6403c_32 rfl ml_J7_304 mn_s in_J9 mn_c (by omega) (by decide) (by decide) (Nat.le_of_ble_eq_true rfl) ?_
  rw [show (if nI 15 < nI 10 then nI 15 else nI 10) = nI 10 from by decide]
  have e0 : (nH h (62, i)).2.1 (61, i) = h.2.1 (61, i) := nH_2 h _ (ad_ne (show (61 : Nat) ≠ 62 by decide))
  have e1 : (nH h (62, i)).2.1 (62, i) = fun _ => none := nH_2s h _
  refine g_copyQ (ci := 9) (M := 15) (pc' := 38) dJ7_copyOf_6403c_35 rfl rfl rfl ml_J7_150 (by decide) (by decide) (by decide) (by omega) (Nat.le_of_ble_eq_true rfl) ck_9 wd_toyc (fun j b hj q => hel j b hj (by rw [e0] at q; exact q)) ?_
  rw [e0, e1]
  refine g_aload_n (pc' := 39) dJ7_copyOf_6403c_38 rfl rfl ?_
  refine g_aret dJ7_copyOf_6403c_39 rfl (by first | exact Or.inl ⟨_, rfl⟩ | exact Or.inr ⟨_, rfl⟩) (by decide) (by decide) ?_
  exact ⟨rfl, rfl⟩
set_option maxRecDepth 4000 in
theorem li_cp2A {E : En} (hok : EOK E) {h : Hp} {i : Nat} (h94 : h.2.2 (94, 0) = true) (hf : h.2.2 (62, i) = false) (hel : ∀ j b, j < 10 → h.2.1 (61, i) j = some b → mt b = (9, 15)) : Call E m_J7_copyOf_1904c 2 1 15 [vR (61, i), vI (nI 15)] h (fun r h' => r = some (vR (62, i)) ∧ wQ (nH h (62, i)) (62, i) (va_cpy (h.2.1 (61, i)) (fun _ => none) 0 0 10) = h') := by
  refine Call.enter hok (by decide) (Nat.le_of_ble_eq_true rfl) ?_
  show G E m_J7_copyOf_1904c 2 1 15 _ h 0 [some (vR (61, i)), some (vI (nI 15))] [] h 0 0
  refine g_aload_n (pc' := 1) dJ7_copyOf_1904c_0 rfl rfl ?_
  refine g_iload_n (pc' := 2) dJ7_copyOf_1904c_1 rfl rfl ?_
  refine g_aload_n (pc' := 3) dJ7_copyOf_1904c_2 rfl rfl ?_
  refine g_getC (pc' := 6) h94 dJ7_copyOf_1904c_3 rfl rfl wd_gcm (by omega) (Nat.le_of_ble_eq_true rfl) ?_
  refine g_invS (pc' := 9) (li_cp3A hok h94 hf hel) dJ7_copyOf_1904c_6 rfl ml_J7_300 st_J7_copyOf_6403c in_J7 co_J7_copyOf_6403c pd_J7_copyOf_6403c rfl (by omega) (by decide) ⟨by decide, by decide⟩ (Nat.le_of_ble_eq_true rfl) ?_
  rintro _ _ ⟨rfl, rfl⟩ -
  refine g_aret dJ7_copyOf_1904c_9 rfl (by first | exact Or.inl ⟨_, rfl⟩ | exact Or.inr ⟨_, rfl⟩) (by decide) (by decide) ?_
  exact ⟨rfl, rfl⟩
set_option maxRecDepth 4000 in
theorem li_grow1A {E : En} (hok : EOK E) {h : Hp} {i : Nat} (h94 : h.2.2 (94, 0) = true) (hf : h.2.2 (62, i) = false) (hD : h.2.1 (13, i) 1 = some (61, i)) (hel : ∀ j b, j < 10 → h.2.1 (61, i) j = some b → mt b = (9, 15)) : Call E m_Jx4a65c_grow_92f84 3 1 15 [vR (13, i), vI (nI 11)] h (fun r h' => r = some (vR (62, i)) ∧ wR (wQ (nH h (62, i)) (62, i) (va_cpy (h.2.1 (61, i)) (fun _ => none) 0 0 10)) (13, i) 1 (some (62, i)) = h') := by
  refine Call.enter hok (by decide) (Nat.le_of_ble_eq_true rfl) ?_
  show G E m_Jx4a65c_grow_92f84 3 1 15 _ h 0 [some (vR (13, i)), some (vI (nI 11)), none, none] [] h 0 0
  refine g_aload_n (pc' := 1) dJx4a65c_grow_92f84_0 rfl rfl ?_
  refine g_getR (pc' := 4) (k := 1) (r := some (61, i)) dJx4a65c_grow_92f84_1 rfl rfl ck_0 (by decide) fl_Jx4a65c_9 rfl (hD) ?_
  refine g_alen (pc' := 5) (v := nI 10) dJx4a65c_grow_92f84_4 rfl rfl (by decide) rfl ?_
  refine g_istore_n (pc' := 6) dJx4a65c_grow_92f84_5 rfl (by decide) rfl ?_
  try simp only [List.set]
  refine g_iload_n (pc' := 7) dJx4a65c_grow_92f84_6 rfl rfl ?_
  refine g_if_gtN (tgt := 20) (pc' := 10) dJx4a65c_grow_92f84_7 rfl (by decide) (by decide) (fun _ => ?_) (fun q => False.elim (by revert q; decide))
  refine g_iload_n (pc' := 21) dJx4a65c_grow_92f84_20 rfl rfl ?_
  refine g_iload_n (pc' := 22) dJx4a65c_grow_92f84_21 rfl rfl ?_
  refine g_iload_n (pc' := 23) dJx4a65c_grow_92f84_22 rfl rfl ?_
  refine g_isubN (pc' := 24) dJx4a65c_grow_92f84_23 rfl (by omega) ?_
  refine g_iload_n (pc' := 25) dJx4a65c_grow_92f84_24 rfl rfl ?_
  refine g_iconstN (n := 1) (pc' := 26) dJx4a65c_grow_92f84_25 rfl ?_
  refine g_ishr (pc' := 27) dJx4a65c_grow_92f84_26 rfl ?_
  rw [show nI 10 >>> (nI 1 &&& 31) = nI 5 from by decide]
  refine g_invS (pc' := 30) (li_nlA hok) dJx4a65c_grow_92f84_27 rfl ml_Jx4a65c_73 st_J8_newLength_cabcc in_J8 co_J8_newLength_cabcc pd_J8_newLength_cabcc rfl (by omega) (by decide) ⟨by decide, by decide⟩ (Nat.le_of_ble_eq_true rfl) ?_
  rintro _ _ ⟨rfl, rfl⟩ -
  refine g_istore_n (pc' := 31) dJx4a65c_grow_92f84_30 rfl (by decide) rfl ?_
  try simp only [List.set]
  refine g_aload_n (pc' := 32) dJx4a65c_grow_92f84_31 rfl rfl ?_
  refine g_aload_n (pc' := 33) dJx4a65c_grow_92f84_32 rfl rfl ?_
  refine g_getR (pc' := 36) (k := 1) (r := some (61, i)) dJx4a65c_grow_92f84_33 rfl rfl ck_0 (by decide) fl_Jx4a65c_9 rfl (hD) ?_
  refine g_iload_n (pc' := 37) dJx4a65c_grow_92f84_36 rfl rfl ?_
  refine g_invS (pc' := 40) (li_cp2A hok h94 hf hel) dJx4a65c_grow_92f84_37 rfl ml_Jx4a65c_66 st_J7_copyOf_1904c in_J7 co_J7_copyOf_1904c pd_J7_copyOf_1904c rfl (by omega) (by decide) ⟨by decide, by decide⟩ (Nat.le_of_ble_eq_true rfl) ?_
  rintro _ _ ⟨rfl, rfl⟩ -
  refine g_dup_x1 (pc' := 41) dJx4a65c_grow_92f84_40 rfl rfl rfl ?_
  refine g_putR (pc' := 44) (k := 1) dJx4a65c_grow_92f84_41 rfl rfl ck_0 (by decide) fl_Jx4a65c_9 rfl rfl ?_
  refine g_aret dJx4a65c_grow_92f84_44 rfl (by first | exact Or.inl ⟨_, rfl⟩ | exact Or.inr ⟨_, rfl⟩) (by decide) (by decide) ?_
  exact ⟨rfl, rfl⟩
set_option maxRecDepth 4000 in
theorem li_grow0A {E : En} (hok : EOK E) {h : Hp} {i : Nat} (h94 : h.2.2 (94, 0) = true) (hf : h.2.2 (62, i) = false) (hD : h.2.1 (13, i) 1 = some (61, i)) (hel : ∀ j b, j < 10 → h.2.1 (61, i) j = some b → mt b = (9, 15)) (hn : h.1 (13, i) 2 = nI 10) : Call E m_Jx4a65c_grow_d5877 4 1 15 [vR (13, i)] h (fun r h' => r = some (vR (62, i)) ∧ wR (wQ (nH h (62, i)) (62, i) (va_cpy (h.2.1 (61, i)) (fun _ => none) 0 0 10)) (13, i) 1 (some (62, i)) = h') := by
  refine Call.enter hok (by decide) (Nat.le_of_ble_eq_true rfl) ?_
  show G E m_Jx4a65c_grow_d5877 4 1 15 _ h 0 [some (vR (13, i))] [] h 0 0
  refine g_aload_n (pc' := 1) dJx4a65c_grow_d5877_0 rfl rfl ?_
  refine g_aload_n (pc' := 2) dJx4a65c_grow_d5877_1 rfl rfl ?_
  refine g_getIv (v := nI (10)) (pc' := 5) (k := 2) dJx4a65c_grow_d5877_2 rfl rfl ck_0 (by decide) fl_Jx4a65c_48 rfl (hn) ?_
  refine g_iconstN (n := 1) (pc' := 6) dJx4a65c_grow_d5877_5 rfl ?_
  refine g_iaddN (pc' := 7) dJx4a65c_grow_d5877_6 rfl ?_
  refine g_invV (pc' := 10) (li_grow1A hok h94 hf hD hel) dJx4a65c_grow_d5877_7 rfl rfl ck_0 rfl ml_Jx4a65c_69 im_Jx4a65c_grow_92f84 sl_Jx4a65c_grow_92f84 in_Jx4a65c co_Jx4a65c_grow_92f84 pd_Jx4a65c_grow_92f84 rfl (by omega) (by decide) ⟨by decide, by decide⟩ (Nat.le_of_ble_eq_true rfl) ?_
  rintro _ _ ⟨rfl, rfl⟩ -
  refine g_aret dJx4a65c_grow_d5877_10 rfl (by first | exact Or.inl ⟨_, rfl⟩ | exact Or.inr ⟨_, rfl⟩) (by decide) (by decide) ?_
  exact ⟨rfl, rfl⟩
set_option maxRecDepth 4000 in
theorem li_gadd3A {E : En} (hok : EOK E) {h : Hp} {i t : Nat} (h94 : h.2.2 (94, 0) = true) (hf : h.2.2 (62, i) = false) (hD : h.2.1 (13, i) 1 = some (61, i)) (hel : ∀ j b, j < 10 → h.2.1 (61, i) j = some b → mt b = (9, 15)) (hn : h.1 (13, i) 2 = nI 10) : Call E m_Jx4a65c_add_72be8 5 1 15 [vR (13, i), vR (3, t), vR (61, i), vI (nI 10)] h (fun r h' => r = none ∧ wI (wR (wR (wQ (nH h (62, i)) (62, i) (va_cpy (h.2.1 (61, i)) (fun _ => none) 0 0 10)) (13, i) 1 (some (62, i))) (62, i) 10 (some (3, t))) (13, i) 2 (nI 11) = h') := by
  have hvm : mt (3, t) = (9, 15) := rfl
  have hck := ck_9
  have hca := wd_toyc
  refine Call.enter hok (by decide) (Nat.le_of_ble_eq_true rfl) ?_
  show G E m_Jx4a65c_add_72be8 5 1 15 _ h 0 [some (vR (13, i)), some (vR (3, t)), some (vR (61, i)), some (vI (nI 10))] [] h 0 0
  refine g_iload_n (pc' := 1) dJx4a65c_add_72be8_0 rfl rfl ?_
  refine g_aload_n (pc' := 2) dJx4a65c_add_72be8_1 rfl rfl ?_
  refine g_alen (pc' := 3) (v := nI 10) dJx4a65c_add_72be8_2 rfl rfl (by decide) rfl ?_
  refine g_icmp_neN (tgt := 11) (pc' := 6) dJx4a65c_add_72be8_3 rfl (by decide) (by decide) (by decide) (fun q => False.elim (by revert q; decide)) (fun _ => ?_)
  refine g_aload_n (pc' := 7) dJx4a65c_add_72be8_6 rfl rfl ?_
  refine g_invV (pc' := 10) (li_grow0A hok h94 hf hD hel hn) dJx4a65c_add_72be8_7 rfl rfl ck_0 rfl ml_Jx4a65c_129 im_Jx4a65c_grow_d5877 sl_Jx4a65c_grow_d5877 in_Jx4a65c co_Jx4a65c_grow_d5877 pd_Jx4a65c_grow_d5877 rfl (by omega) (by decide) ⟨by decide, by decide⟩ (Nat.le_of_ble_eq_true rfl) ?_
  rintro _ _ ⟨rfl, rfl⟩ -
  refine g_astore_n (pc' := 11) dJx4a65c_add_72be8_10 rfl (by decide) rfl ?_
  try simp only [List.set]
  refine g_aload_n (pc' := 12) dJx4a65c_add_72be8_11 rfl rfl ?_
  refine g_iload_n (pc' := 13) dJx4a65c_add_72be8_12 rfl rfl ?_
  refine g_aload_n (pc' := 14) dJx4a65c_add_72be8_13 rfl rfl ?_
  refine g_aastN (pc' := 15) dJx4a65c_add_72be8_14 rfl rfl hvm hck hca (by omega) (by omega) ?_
  refine g_aload_n (pc' := 16) dJx4a65c_add_72be8_15 rfl rfl ?_
  refine g_iload_n (pc' := 17) dJx4a65c_add_72be8_16 rfl rfl ?_
  refine g_iconstN (n := 1) (pc' := 18) dJx4a65c_add_72be8_17 rfl ?_
  refine g_iaddN (pc' := 19) dJx4a65c_add_72be8_18 rfl ?_
  refine g_putI (pc' := 22) (k := 2) dJx4a65c_add_72be8_19 rfl rfl ck_0 (by decide) fl_Jx4a65c_48 rfl rfl rfl rfl ?_
  refine g_vret dJx4a65c_add_72be8_22 rfl (by decide) (by decide) ?_
  exact ⟨rfl, rfl⟩
set_option maxRecDepth 4000 in
theorem li_gaddA {E : En} (hok : EOK E) {h : Hp} {i t : Nat} (h94 : h.2.2 (94, 0) = true) (hf : h.2.2 (62, i) = false) (hD : h.2.1 (13, i) 1 = some (61, i)) (hel : ∀ j b, j < 10 → h.2.1 (61, i) j = some b → mt b = (9, 15)) (hn : h.1 (13, i) 2 = nI 10) : Call E m_Jx4a65c_add_9ea2d 6 1 15 [vR (13, i), vR (3, t)] h (fun r h' => r = some (vI 1) ∧ wI (wR (wR (wQ (nH (wI h (13, i) 0 (h.1 (13, i) 0 + nI 1)) (62, i)) (62, i) (va_cpy ((wI h (13, i) 0 (h.1 (13, i) 0 + nI 1)).2.1 (61, i)) (fun _ => none) 0 0 10)) (13, i) 1 (some (62, i))) (62, i) 10 (some (3, t))) (13, i) 2 (nI 11) = h') := by
  refine Call.enter hok (by decide) (Nat.le_of_ble_eq_true rfl) ?_
  show G E m_Jx4a65c_add_9ea2d 6 1 15 _ h 0 [some (vR (13, i)), some (vR (3, t))] [] h 0 0
  refine g_aload_n (pc' := 1) dJx4a65c_add_9ea2d_0 rfl rfl ?_
  refine g_dup (pc' := 2) dJx4a65c_add_9ea2d_1 rfl rfl ?_
  refine g_getM (pc' := 5) dJx4a65c_add_9ea2d_2 rfl fl_Jx4a65c_63 ?_
  refine g_iconstN (n := 1) (pc' := 6) dJx4a65c_add_9ea2d_5 rfl ?_
  refine g_iadd (pc' := 7) dJx4a65c_add_9ea2d_6 rfl ?_
  refine g_putM (pc' := 10) dJx4a65c_add_9ea2d_7 rfl fl_Jx4a65c_63 ?_
  refine g_aload_n (pc' := 11) dJx4a65c_add_9ea2d_10 rfl rfl ?_
  refine g_aload_n (pc' := 12) dJx4a65c_add_9ea2d_11 rfl rfl ?_
  refine g_aload_n (pc' := 13) dJx4a65c_add_9ea2d_12 rfl rfl ?_
  refine g_getR (pc' := 16) (k := 1) (r := some (61, i)) dJx4a65c_add_9ea2d_13 rfl rfl ck_0 (by decide) fl_Jx4a65c_9 rfl (hD) ?_
  refine g_aload_n (pc' := 17) dJx4a65c_add_9ea2d_16 rfl rfl ?_
  refine g_getIv (v := nI (10)) (pc' := 20) (k := 2) dJx4a65c_add_9ea2d_17 rfl rfl ck_0 (by decide) fl_Jx4a65c_48 rfl ((wI_f (by decide)).trans hn) ?_
  refine g_invV (pc' := 23) (li_gadd3A hok (h := wI h (13, i) 0 (h.1 (13, i) 0 + nI 1)) h94 hf hD hel ((wI_f (by decide)).trans hn)) dJx4a65c_add_9ea2d_20 rfl rfl ck_0 rfl ml_Jx4a65c_131 im_Jx4a65c_add_72be8 sl_Jx4a65c_add_72be8 in_Jx4a65c co_Jx4a65c_add_72be8 pd_Jx4a65c_add_72be8 rfl (by omega) (by decide) ⟨by decide, by decide⟩ (Nat.le_of_ble_eq_true rfl) ?_
  rintro _ _ ⟨rfl, rfl⟩ -
  refine g_iconstN (n := 1) (pc' := 24) dJx4a65c_add_9ea2d_23 rfl ?_
  refine g_zret dJx4a65c_add_9ea2d_24 rfl (by rfl) (by decide) (by decide) ?_
  exact ⟨rfl, rfl⟩
set_option maxRecDepth 4000 in
theorem li_nlB {E : En} (hok : EOK E) {h : Hp}  : Call E m_J8_newLength_cabcc 1 0 0 [vI (nI 15), vI (nI 1), vI (nI 7)] h (fun r0 h' => r0 = some (vI (nI 22)) ∧ h = h') := by
  refine Call.enter hok (by decide) (Nat.le_of_ble_eq_true rfl) ?_
  show G E m_J8_newLength_cabcc 1 0 0 _ h 0 [some (vI (nI 15)), some (vI (nI 1)), some (vI (nI 7)), none] [] h 0 0
  refine g_iload_n (pc' := 1) dJ8_newLength_cabcc_0 rfl rfl ?_
  refine g_iload_n (pc' := 2) dJ8_newLength_cabcc_1 rfl rfl ?_
  refine g_iload_n (pc' := 3) dJ8_newLength_cabcc_2 rfl rfl ?_
  refine g_max (pc' := 6) dJ8_newLength_cabcc_3 rfl ml_J8_194 mx_s in_J9 mx_c (by omega) (by decide) (by decide) (Nat.le_of_ble_eq_true rfl) ?_
  rw [show (if nI 1 < nI 7 then nI 7 else nI 1) = nI 7 from by decide]
  refine g_iaddN (pc' := 7) dJ8_newLength_cabcc_6 rfl ?_
  refine g_istore_n (pc' := 8) dJ8_newLength_cabcc_7 rfl (by decide) rfl ?_
  try simp only [List.set]
  refine g_iconstN (n := 0) (pc' := 9) dJ8_newLength_cabcc_8 rfl ?_
  refine g_iload_n (pc' := 10) dJ8_newLength_cabcc_9 rfl rfl ?_
  refine g_icmp_geN (tgt := 21) (pc' := 13) dJ8_newLength_cabcc_10 rfl (by decide) (by omega) (by omega) (fun c10 => ?_) (fun c10 => ?_)
  · exact absurd c10 (by omega)
  ·
    refine g_iload_n (pc' := 14) dJ8_newLength_cabcc_13 rfl rfl ?_
    refine g_ldc (pc' := 16) dJ8_newLength_cabcc_14 rfl kc_J8_200 ?_
    refine g_icmp_gt (tgt := 21) (pc' := 19) dJ8_newLength_cabcc_16 rfl (by decide) (fun c16 => ?_) (fun c16 => ?_)
    · exact absurd c16 (by decide)
    ·
      refine g_iload_n (pc' := 20) dJ8_newLength_cabcc_19 rfl rfl ?_
      refine g_iret dJ8_newLength_cabcc_20 rfl (by decide) (by decide) ?_
      exact ⟨rfl, rfl⟩
set_option maxRecDepth 4000 in
theorem li_cp3B {E : En} (hok : EOK E) {h : Hp} {i : Nat} (h94 : h.2.2 (94, 0) = true) (hf : h.2.2 (63, i) = false) (hel : ∀ j b, j < 15 → h.2.1 (62, i) j = some b → mt b = (9, 15)) : Call E m_J7_copyOf_6403c 1 1 22 [vR (62, i), vI (nI 22), vR (94, 0)] h (fun r h' => r = some (vR (63, i)) ∧ wQ (nH h (63, i)) (63, i) (va_cpy (h.2.1 (62, i)) (fun _ => none) 0 0 15) = h') := by
  refine Call.enter hok (by decide) (Nat.le_of_ble_eq_true rfl) ?_
  show G E m_J7_copyOf_6403c 1 1 22 _ h 0 [some (vR (62, i)), some (vI (nI 22)), some (vR (94, 0)), none] [] h 0 0
  refine g_aload_n (pc' := 1) dJ7_copyOf_6403c_0 rfl rfl ?_
  refine g_ldcM (pc' := 3) h94 dJ7_copyOf_6403c_1 rfl wd_gcl ?_
  refine g_acmp_sameN (tgt := 13) (pc' := 6) dJ7_copyOf_6403c_3 rfl (by decide) ?_
  refine g_iload_n (pc' := 7) dJ7_copyOf_6403c_6 rfl rfl ?_
  refine g_newq (63, i) hf (pc' := 10) dJ7_copyOf_6403c_7 rfl rfl cl_J7_2 (by decide) (by decide) (by decide) ?_
  refine g_goto (tgt := 24) dJ7_copyOf_6403c_10 (by decide) ?_
  refine g_astore_n (pc' := 25) dJ7_copyOf_6403c_24 rfl (by decide) rfl ?_
  try simp only [List.set]
  refine g_aload_n (pc' := 26) dJ7_copyOf_6403c_25 rfl rfl ?_
  refine g_iconstN (n := 0) (pc' := 27) dJ7_copyOf_6403c_26 rfl ?_
  refine g_aload_n (pc' := 28) dJ7_copyOf_6403c_27 rfl rfl ?_
  refine g_iconstN (n := 0) (pc' := 29) dJ7_copyOf_6403c_28 rfl ?_
  refine g_aload_n (pc' := 30) dJ7_copyOf_6403c_29 rfl rfl ?_
  refine g_alen (pc' := 31) (v := nI 15) dJ7_copyOf_6403c_30 rfl rfl (by decide) rfl ?_
  refine g_iload_n (pc' := 32) dJ7_copyOf_6403c_31 rfl rfl ?_
  refine g_min (pc' := 35) dJ7_copyOf_6403c_32 rfl ml_J7_304 mn_s in_J9 mn_c (by omega) (by decide) (by decide) (Nat.le_of_ble_eq_true rfl) ?_
  rw [show (if nI 22 < nI 15 then nI 22 else nI 15) = nI 15 from by decide]
  have e0 : (nH h (63, i)).2.1 (62, i) = h.2.1 (62, i) := nH_2 h _ (ad_ne (show (62 : Nat) ≠ 63 by decide))
  have e1 : (nH h (63, i)).2.1 (63, i) = fun _ => none := nH_2s h _
  refine g_copyQ (ci := 9) (M := 15) (pc' := 38) dJ7_copyOf_6403c_35 rfl rfl rfl ml_J7_150 (by decide) (by decide) (by decide) (by omega) (Nat.le_of_ble_eq_true rfl) ck_9 wd_toyc (fun j b hj q => hel j b hj (by rw [e0] at q; exact q)) ?_
  rw [e0, e1]
  refine g_aload_n (pc' := 39) dJ7_copyOf_6403c_38 rfl rfl ?_
  refine g_aret dJ7_copyOf_6403c_39 rfl (by first | exact Or.inl ⟨_, rfl⟩ | exact Or.inr ⟨_, rfl⟩) (by decide) (by decide) ?_
  exact ⟨rfl, rfl⟩
set_option maxRecDepth 4000 in
theorem li_cp2B {E : En} (hok : EOK E) {h : Hp} {i : Nat} (h94 : h.2.2 (94, 0) = true) (hf : h.2.2 (63, i) = false) (hel : ∀ j b, j < 15 → h.2.1 (62, i) j = some b → mt b = (9, 15)) : Call E m_J7_copyOf_1904c 2 1 22 [vR (62, i), vI (nI 22)] h (fun r h' => r = some (vR (63, i)) ∧ wQ (nH h (63, i)) (63, i) (va_cpy (h.2.1 (62, i)) (fun _ => none) 0 0 15) = h') := by
  refine Call.enter hok (by decide) (Nat.le_of_ble_eq_true rfl) ?_
  show G E m_J7_copyOf_1904c 2 1 22 _ h 0 [some (vR (62, i)), some (vI (nI 22))] [] h 0 0
  refine g_aload_n (pc' := 1) dJ7_copyOf_1904c_0 rfl rfl ?_
  refine g_iload_n (pc' := 2) dJ7_copyOf_1904c_1 rfl rfl ?_
  refine g_aload_n (pc' := 3) dJ7_copyOf_1904c_2 rfl rfl ?_
  refine g_getC (pc' := 6) h94 dJ7_copyOf_1904c_3 rfl rfl wd_gcm (by omega) (Nat.le_of_ble_eq_true rfl) ?_
  refine g_invS (pc' := 9) (li_cp3B hok h94 hf hel) dJ7_copyOf_1904c_6 rfl ml_J7_300 st_J7_copyOf_6403c in_J7 co_J7_copyOf_6403c pd_J7_copyOf_6403c rfl (by omega) (by decide) ⟨by decide, by decide⟩ (Nat.le_of_ble_eq_true rfl) ?_
  rintro _ _ ⟨rfl, rfl⟩ -
  refine g_aret dJ7_copyOf_1904c_9 rfl (by first | exact Or.inl ⟨_, rfl⟩ | exact Or.inr ⟨_, rfl⟩) (by decide) (by decide) ?_
  exact ⟨rfl, rfl⟩
set_option maxRecDepth 4000 in
theorem li_grow1B {E : En} (hok : EOK E) {h : Hp} {i : Nat} (h94 : h.2.2 (94, 0) = true) (hf : h.2.2 (63, i) = false) (hD : h.2.1 (13, i) 1 = some (62, i)) (hel : ∀ j b, j < 15 → h.2.1 (62, i) j = some b → mt b = (9, 15)) : Call E m_Jx4a65c_grow_92f84 3 1 22 [vR (13, i), vI (nI 16)] h (fun r h' => r = some (vR (63, i)) ∧ wR (wQ (nH h (63, i)) (63, i) (va_cpy (h.2.1 (62, i)) (fun _ => none) 0 0 15)) (13, i) 1 (some (63, i)) = h') := by
  refine Call.enter hok (by decide) (Nat.le_of_ble_eq_true rfl) ?_
  show G E m_Jx4a65c_grow_92f84 3 1 22 _ h 0 [some (vR (13, i)), some (vI (nI 16)), none, none] [] h 0 0
  refine g_aload_n (pc' := 1) dJx4a65c_grow_92f84_0 rfl rfl ?_
  refine g_getR (pc' := 4) (k := 1) (r := some (62, i)) dJx4a65c_grow_92f84_1 rfl rfl ck_0 (by decide) fl_Jx4a65c_9 rfl (hD) ?_
  refine g_alen (pc' := 5) (v := nI 15) dJx4a65c_grow_92f84_4 rfl rfl (by decide) rfl ?_
  refine g_istore_n (pc' := 6) dJx4a65c_grow_92f84_5 rfl (by decide) rfl ?_
  try simp only [List.set]
  refine g_iload_n (pc' := 7) dJx4a65c_grow_92f84_6 rfl rfl ?_
  refine g_if_gtN (tgt := 20) (pc' := 10) dJx4a65c_grow_92f84_7 rfl (by decide) (by decide) (fun _ => ?_) (fun q => False.elim (by revert q; decide))
  refine g_iload_n (pc' := 21) dJx4a65c_grow_92f84_20 rfl rfl ?_
  refine g_iload_n (pc' := 22) dJx4a65c_grow_92f84_21 rfl rfl ?_
  refine g_iload_n (pc' := 23) dJx4a65c_grow_92f84_22 rfl rfl ?_
  refine g_isubN (pc' := 24) dJx4a65c_grow_92f84_23 rfl (by omega) ?_
  refine g_iload_n (pc' := 25) dJx4a65c_grow_92f84_24 rfl rfl ?_
  refine g_iconstN (n := 1) (pc' := 26) dJx4a65c_grow_92f84_25 rfl ?_
  refine g_ishr (pc' := 27) dJx4a65c_grow_92f84_26 rfl ?_
  rw [show nI 15 >>> (nI 1 &&& 31) = nI 7 from by decide]
  refine g_invS (pc' := 30) (li_nlB hok) dJx4a65c_grow_92f84_27 rfl ml_Jx4a65c_73 st_J8_newLength_cabcc in_J8 co_J8_newLength_cabcc pd_J8_newLength_cabcc rfl (by omega) (by decide) ⟨by decide, by decide⟩ (Nat.le_of_ble_eq_true rfl) ?_
  rintro _ _ ⟨rfl, rfl⟩ -
  refine g_istore_n (pc' := 31) dJx4a65c_grow_92f84_30 rfl (by decide) rfl ?_
  try simp only [List.set]
  refine g_aload_n (pc' := 32) dJx4a65c_grow_92f84_31 rfl rfl ?_
  refine g_aload_n (pc' := 33) dJx4a65c_grow_92f84_32 rfl rfl ?_
  refine g_getR (pc' := 36) (k := 1) (r := some (62, i)) dJx4a65c_grow_92f84_33 rfl rfl ck_0 (by decide) fl_Jx4a65c_9 rfl (hD) ?_
  refine g_iload_n (pc' := 37) dJx4a65c_grow_92f84_36 rfl rfl ?_
  refine g_invS (pc' := 40) (li_cp2B hok h94 hf hel) dJx4a65c_grow_92f84_37 rfl ml_Jx4a65c_66 st_J7_copyOf_1904c in_J7 co_J7_copyOf_1904c pd_J7_copyOf_1904c rfl (by omega) (by decide) ⟨by decide, by decide⟩ (Nat.le_of_ble_eq_true rfl) ?_
  rintro _ _ ⟨rfl, rfl⟩ -
  refine g_dup_x1 (pc' := 41) dJx4a65c_grow_92f84_40 rfl rfl rfl ?_
  refine g_putR (pc' := 44) (k := 1) dJx4a65c_grow_92f84_41 rfl rfl ck_0 (by decide) fl_Jx4a65c_9 rfl rfl ?_
  refine g_aret dJx4a65c_grow_92f84_44 rfl (by first | exact Or.inl ⟨_, rfl⟩ | exact Or.inr ⟨_, rfl⟩) (by decide) (by decide) ?_
  exact ⟨rfl, rfl⟩
set_option maxRecDepth 4000 in
theorem li_grow0B {E : En} (hok : EOK E) {h : Hp} {i : Nat} (h94 : h.2.2 (94, 0) = true) (hf : h.2.2 (63, i) = false) (hD : h.2.1 (13, i) 1 = some (62, i)) (hel : ∀ j b, j < 15 → h.2.1 (62, i) j = some b → mt b = (9, 15)) (hn : h.1 (13, i) 2 = nI 15) : Call E m_Jx4a65c_grow_d5877 4 1 22 [vR (13, i)] h (fun r h' => r = some (vR (63, i)) ∧ wR (wQ (nH h (63, i)) (63, i) (va_cpy (h.2.1 (62, i)) (fun _ => none) 0 0 15)) (13, i) 1 (some (63, i)) = h') := by
  refine Call.enter hok (by decide) (Nat.le_of_ble_eq_true rfl) ?_
  show G E m_Jx4a65c_grow_d5877 4 1 22 _ h 0 [some (vR (13, i))] [] h 0 0
  refine g_aload_n (pc' := 1) dJx4a65c_grow_d5877_0 rfl rfl ?_
  refine g_aload_n (pc' := 2) dJx4a65c_grow_d5877_1 rfl rfl ?_
  refine g_getIv (v := nI (15)) (pc' := 5) (k := 2) dJx4a65c_grow_d5877_2 rfl rfl ck_0 (by decide) fl_Jx4a65c_48 rfl (hn) ?_
  refine g_iconstN (n := 1) (pc' := 6) dJx4a65c_grow_d5877_5 rfl ?_
  refine g_iaddN (pc' := 7) dJx4a65c_grow_d5877_6 rfl ?_
  refine g_invV (pc' := 10) (li_grow1B hok h94 hf hD hel) dJx4a65c_grow_d5877_7 rfl rfl ck_0 rfl ml_Jx4a65c_69 im_Jx4a65c_grow_92f84 sl_Jx4a65c_grow_92f84 in_Jx4a65c co_Jx4a65c_grow_92f84 pd_Jx4a65c_grow_92f84 rfl (by omega) (by decide) ⟨by decide, by decide⟩ (Nat.le_of_ble_eq_true rfl) ?_
  rintro _ _ ⟨rfl, rfl⟩ -
  refine g_aret dJx4a65c_grow_d5877_10 rfl (by first | exact Or.inl ⟨_, rfl⟩ | exact Or.inr ⟨_, rfl⟩) (by decide) (by decide) ?_
  exact ⟨rfl, rfl⟩
set_option maxRecDepth 4000 in
theorem li_gadd3B {E : En} (hok : EOK E) {h : Hp} {i t : Nat} (h94 : h.2.2 (94, 0) = true) (hf : h.2.2 (63, i) = false) (hD : h.2.1 (13, i) 1 = some (62, i)) (hel : ∀ j b, j < 15 → h.2.1 (62, i) j = some b → mt b = (9, 15)) (hn : h.1 (13, i) 2 = nI 15) : Call E m_Jx4a65c_add_72be8 5 1 22 [vR (13, i), vR (3, t), vR (62, i), vI (nI 15)] h (fun r h' => r = none ∧ wI (wR (wR (wQ (nH h (63, i)) (63, i) (va_cpy (h.2.1 (62, i)) (fun _ => none) 0 0 15)) (13, i) 1 (some (63, i))) (63, i) 15 (some (3, t))) (13, i) 2 (nI 16) = h') := by
  have hvm : mt (3, t) = (9, 15) := rfl
  have hck := ck_9
  have hca := wd_toyc
  refine Call.enter hok (by decide) (Nat.le_of_ble_eq_true rfl) ?_
  show G E m_Jx4a65c_add_72be8 5 1 22 _ h 0 [some (vR (13, i)), some (vR (3, t)), some (vR (62, i)), some (vI (nI 15))] [] h 0 0
  refine g_iload_n (pc' := 1) dJx4a65c_add_72be8_0 rfl rfl ?_
  refine g_aload_n (pc' := 2) dJx4a65c_add_72be8_1 rfl rfl ?_
  refine g_alen (pc' := 3) (v := nI 15) dJx4a65c_add_72be8_2 rfl rfl (by decide) rfl ?_
  refine g_icmp_neN (tgt := 11) (pc' := 6) dJx4a65c_add_72be8_3 rfl (by decide) (by decide) (by decide) (fun q => False.elim (by revert q; decide)) (fun _ => ?_)
  refine g_aload_n (pc' := 7) dJx4a65c_add_72be8_6 rfl rfl ?_
  refine g_invV (pc' := 10) (li_grow0B hok h94 hf hD hel hn) dJx4a65c_add_72be8_7 rfl rfl ck_0 rfl ml_Jx4a65c_129 im_Jx4a65c_grow_d5877 sl_Jx4a65c_grow_d5877 in_Jx4a65c co_Jx4a65c_grow_d5877 pd_Jx4a65c_grow_d5877 rfl (by omega) (by decide) ⟨by decide, by decide⟩ (Nat.le_of_ble_eq_true rfl) ?_
  rintro _ _ ⟨rfl, rfl⟩ -
  refine g_astore_n (pc' := 11) dJx4a65c_add_72be8_10 rfl (by decide) rfl ?_
  try simp only [List.set]
  refine g_aload_n (pc' := 12) dJx4a65c_add_72be8_11 rfl rfl ?_
  refine g_iload_n (pc' := 13) dJx4a65c_add_72be8_12 rfl rfl ?_
  refine g_aload_n (pc' := 14) dJx4a65c_add_72be8_13 rfl rfl ?_
  refine g_aastN (pc' := 15) dJx4a65c_add_72be8_14 rfl rfl hvm hck hca (by omega) (by omega) ?_
  refine g_aload_n (pc' := 16) dJx4a65c_add_72be8_15 rfl rfl ?_
  refine g_iload_n (pc' := 17) dJx4a65c_add_72be8_16 rfl rfl ?_
  refine g_iconstN (n := 1) (pc' := 18) dJx4a65c_add_72be8_17 rfl ?_
  refine g_iaddN (pc' := 19) dJx4a65c_add_72be8_18 rfl ?_
  refine g_putI (pc' := 22) (k := 2) dJx4a65c_add_72be8_19 rfl rfl ck_0 (by decide) fl_Jx4a65c_48 rfl rfl rfl rfl ?_
  refine g_vret dJx4a65c_add_72be8_22 rfl (by decide) (by decide) ?_
  exact ⟨rfl, rfl⟩
set_option maxRecDepth 4000 in
theorem li_gaddB {E : En} (hok : EOK E) {h : Hp} {i t : Nat} (h94 : h.2.2 (94, 0) = true) (hf : h.2.2 (63, i) = false) (hD : h.2.1 (13, i) 1 = some (62, i)) (hel : ∀ j b, j < 15 → h.2.1 (62, i) j = some b → mt b = (9, 15)) (hn : h.1 (13, i) 2 = nI 15) : Call E m_Jx4a65c_add_9ea2d 6 1 22 [vR (13, i), vR (3, t)] h (fun r h' => r = some (vI 1) ∧ wI (wR (wR (wQ (nH (wI h (13, i) 0 (h.1 (13, i) 0 + nI 1)) (63, i)) (63, i) (va_cpy ((wI h (13, i) 0 (h.1 (13, i) 0 + nI 1)).2.1 (62, i)) (fun _ => none) 0 0 15)) (13, i) 1 (some (63, i))) (63, i) 15 (some (3, t))) (13, i) 2 (nI 16) = h') := by
  refine Call.enter hok (by decide) (Nat.le_of_ble_eq_true rfl) ?_
  show G E m_Jx4a65c_add_9ea2d 6 1 22 _ h 0 [some (vR (13, i)), some (vR (3, t))] [] h 0 0
  refine g_aload_n (pc' := 1) dJx4a65c_add_9ea2d_0 rfl rfl ?_
  refine g_dup (pc' := 2) dJx4a65c_add_9ea2d_1 rfl rfl ?_
  refine g_getM (pc' := 5) dJx4a65c_add_9ea2d_2 rfl fl_Jx4a65c_63 ?_
  refine g_iconstN (n := 1) (pc' := 6) dJx4a65c_add_9ea2d_5 rfl ?_
  refine g_iadd (pc' := 7) dJx4a65c_add_9ea2d_6 rfl ?_
  refine g_putM (pc' := 10) dJx4a65c_add_9ea2d_7 rfl fl_Jx4a65c_63 ?_
  refine g_aload_n (pc' := 11) dJx4a65c_add_9ea2d_10 rfl rfl ?_
  refine g_aload_n (pc' := 12) dJx4a65c_add_9ea2d_11 rfl rfl ?_
  refine g_aload_n (pc' := 13) dJx4a65c_add_9ea2d_12 rfl rfl ?_
  refine g_getR (pc' := 16) (k := 1) (r := some (62, i)) dJx4a65c_add_9ea2d_13 rfl rfl ck_0 (by decide) fl_Jx4a65c_9 rfl (hD) ?_
  refine g_aload_n (pc' := 17) dJx4a65c_add_9ea2d_16 rfl rfl ?_
  refine g_getIv (v := nI (15)) (pc' := 20) (k := 2) dJx4a65c_add_9ea2d_17 rfl rfl ck_0 (by decide) fl_Jx4a65c_48 rfl ((wI_f (by decide)).trans hn) ?_
  refine g_invV (pc' := 23) (li_gadd3B hok (h := wI h (13, i) 0 (h.1 (13, i) 0 + nI 1)) h94 hf hD hel ((wI_f (by decide)).trans hn)) dJx4a65c_add_9ea2d_20 rfl rfl ck_0 rfl ml_Jx4a65c_131 im_Jx4a65c_add_72be8 sl_Jx4a65c_add_72be8 in_Jx4a65c co_Jx4a65c_add_72be8 pd_Jx4a65c_add_72be8 rfl (by omega) (by decide) ⟨by decide, by decide⟩ (Nat.le_of_ble_eq_true rfl) ?_
  rintro _ _ ⟨rfl, rfl⟩ -
  refine g_iconstN (n := 1) (pc' := 24) dJx4a65c_add_9ea2d_23 rfl ?_
  refine g_zret dJx4a65c_add_9ea2d_24 rfl (by rfl) (by decide) (by decide) ?_
  exact ⟨rfl, rfl⟩
