/-! calls -/
theorem room_ok {d d' mc ms mc' ms' maxL : Nat} (hd : d' + 1 ≤ d) (hm : maxL ≤ 45) : (room d' mc' ms').frames + 1 ≤ (room d mc ms).frames ∧ 8 + (maxL + 11) + (room d' mc' ms').locals ≤ (room d mc ms).locals := by
  refine ⟨hd, ?_⟩
  show 8 + (maxL + 11) + 64 * d' ≤ 64 * d
  omega
def ws1 (y : Mt) : List Cond := Cond.code y.1 y.2.1 y.2.2.1 y.2.2.2 :: tw
theorem ws1_good {y : Mt} (hc : Cond.code y.1 y.2.1 y.2.2.1 y.2.2.2 ∈ tw) : GoodIn tw (ws1 y) := fun w hw => by
  rcases List.mem_cons.mp hw with e | e
  · rw [e]; exact tw_good _ hc
  · exact tw_good w e
theorem PU_blind {E : En} (hok : EOK E) {adr : Ad → Nat} {h : Hp} {as : List V} : FrameBlind (va_Pc (as.map (tv adr)) (PU E adr h as)) := fun a U g mk q => by
  obtain ⟨q0, q1, qK, qN, qX, qS, qo⟩ := q
  exact ⟨q0, q1, va_K.moved (u := U) (U := U.calling g mk a) (Vm.Alike.refl U.vm) qK, Nw.same (u := U) rfl qN, hok.2.1 adr U _ qX rfl rfl, qS, qo⟩
/-- from a method's walk to its contract -/
theorem Call.ofG {E : En} {y : Mt} {d mc ms : Nat} {as : List V} {h : Hp} {Q : Option V → Hp → Prop} {L : List (Option V)} (hok : EOK E) (hy : plainName y.1.cls = true) (hn : ∀ adr, (lg_sl (as.map (tv adr))).length ≤ y.2.2.1) (hL : ∀ adr, ∀ q ∈ lo adr L, q ∈ lv_args 0 (as.map (tv adr))) (hLo : ∀ v, some v ∈ L → v ∈ as) (K : G E y d mc ms Q h 0 L [] h 0 0) : Call E y d mc ms as h Q := by
  intro adr
  refine Met.ofW (cc := y.2.1) (maxL := y.2.2.1) (ret := y.2.2.2) hy rfl ?_
  intro p e s m args below meth c s₁ B hml hv
  obtain ⟨rfl, hsz, hK, hN, hX, hS, ho⟩ := hv
  have hts := atoms_spec (ws := Cond.code y.1 y.2.1 y.2.2.1 y.2.2.2 :: tw) B.pre
  have hl := lv_entry (as.map (tv adr)) (n := y.2.2.1) (hn adr)
  rw [lg_entry_eq]
  generalize (lg_sl (as.map (tv adr)) ++ List.replicate (y.2.2.1 - (lg_sl (as.map (tv adr))).length) Slot.unset).toArray = ls at hl ⊢
  refine K p e s m _ below meth c adr adr s.heap [] ls ⟨B.exec, B.bytes, hml, B.returns, B.notSynchronized, findClass_of_methodNamed B.named, (name_of_methodNamed B.named B.method).1, fun w hw => hts w (List.mem_cons_of_mem _ hw), hK, hN, hX, hsz, hok⟩ Lat.rf hS va_S.rf (okS_nil h) (fun v hv => ho v (hLo v hv)) ⟨hl.1, hl.2.1, fun i v hi => ?_⟩
  exact hl.2.2 (i, tv adr v) (hL adr _ (lo_mem.mpr ⟨v, hi, rfl⟩))
section GC
variable {E : En} {y : Mt} {d mc ms : Nat} {Q : Option V → Hp → Prop} {h0 : Hp} {pc pc' : Nat} {L : List (Option V)} {st : List V} {h : Hp} {cu su : Nat}
/-- behind a call -/
theorem g_back {mc' ms' : Nat} {Q' : Option V → Hp → Prop} {p : Program} {e : Env} {s : State} {m : MethodId} {args a : Array Value} {below : List Frame} {meth : Method} {c : Code} {adr0 adr : Ad → Nat} {H : Heap} {locs : List Loc} {ls : Array Slot} {st0 : List Value}
    (C : CX E y h0 p s m args meth c adr0) (hE : Lat h0 adr0 h adr) (hW : va_S (eA E) s.heap H locs) (ho : okS h st) (hoL : okL h L) (hl : LH adr ls y.2.2.1 L) (hr : va_Run p E.1 e (room d mc ms) s m args below meth c H locs cu su mc' ms' (F0 m pc ls st0) (st.map (tv adr)) (QM E adr h Q' a) (eA E))
    (K : ∀ r h', Q' r h' → (∀ a, h.2.2 a = true → h'.2.2 a = true) → G E y d mc ms Q h0 (pc + 3) L (r.toList ++ st) h' (cu + mc') (su + ms')) : W p E.1 e (room d mc ms) s m args below meth c H locs cu su (MQ below (QM E adr0 h0 Q) args s mc ms (eA E)) (F0 m pc ls st0) := by
  intro T hT X
  obtain ⟨v, st₀, t, T', L', hh0, X', hL, e1, e2, ⟨⟨r, adr', h', hv, hq, hov, hlat, hsm⟩, hz, hk⟩, stp⟩ := hr T hT X
  have hv' : v = r.map (tv adr') := by injection hv
  rw [hh0] at hz hk
  have hS1 : va_S (eA E) s.heap T'.heap (locs ++ L') := ⟨Nat.le_trans hW.1 (by rw [e1]; exact hz), fun q h1 h2 => by rw [e1, hk q (Nat.lt_of_lt_of_le h1 hW.1) h2]; exact hW.2.1 q h1 h2, fun q hq => by
    rcases List.mem_append.mp hq with z | z
    · exact hW.2.2 q z
    · exact hL q z⟩
  have hst : okS h' (r.toList ++ st) := fun w hw => by
    rcases List.mem_append.mp hw with z | z
    · exact hov w (Option.mem_toList.mp z)
    · exact okV_mono hlat.1 (ho w z)
  obtain ⟨t2, a1, b1⟩ := K r h' hq hlat.1 p e s m args below meth c adr0 adr' T'.heap (locs ++ L') ls C (hE.tr hlat) (by rw [e1]; exact hsm) hS1 hst (okL_mono hlat.1 hoL) (hl.mono hlat.2.1 hoL) T' rfl X'
  refine ⟨t2, stp t2 ?_, b1⟩
  have es : v.toList ++ st.map (tv adr) = (r.toList ++ st).map (tv adr') := by
    rw [hv', List.map_append, tvS_same hlat.2.1 ho]
    cases r <;> rfl
  show Steps p.tables e below (T'.setTop (F0 m (pc + 3) ls (v.toList ++ st.map (tv adr)))) t2
  rw [es]
  exact a1
theorem PU_at {as : List V} {p : Program} {s : State} {m : MethodId} {args : Array Value} {meth : Method} {c : Code} {adr0 adr : Ad → Nat} {H : Heap} {locs : List Loc} (C : CX E y h0 p s m args meth c adr0) (hE : Lat h0 adr0 h adr) (hS : Sm E adr h H) (hW : va_S (eA E) s.heap H locs) (ho : okS h as) : ∀ U : State, U.heap = H → s.WarmedH U.vm → va_Pc (as.map (tv adr)) (PU E adr h as) (as.map (tv adr)).toArray U := by
  obtain ⟨hx, hb, hml, hr, hlk', hown, hnm, hts, hK, hN, hX, hbs, hok⟩ := C
  intro U hU hWm
  refine ⟨rfl, by rw [hU]; exact Nat.le_trans hbs hW.1, va_K.moved hWm.alike hK, hN.warm hWm, hok.1 adr0 adr s U hX hWm (fun q h1 h2 => by rw [hU]; exact hW.2.1 q h1 h2) hE.2.2, by rw [hU]; exact hS, ho⟩
theorem cat_le {adr : Ad → Nat} {n : Nat} : (st.map fun v => if isL v = true then 2 else 1).sum ≤ n → ((st.map (tv adr)).map fun v => v.category).sum ≤ n := by
  intro q
  have e : ((st.map (tv adr)).map fun v => v.category) = st.map fun v => if isL v = true then 2 else 1 := by
    rw [List.map_map]
    apply List.map_congr_left
    intro v _
    rcases v with x | x | _ | a <;> rfl
  rw [e]; exact q
/-- invokevirtual, the receiver's class is the method's -/
theorem g_invV {y' : Mt} {d' mc' ms' n idx ci N : Nat} {C : String} {T : u_T} {as : List V} {b : Ad} {Q' : Option V → Hp → Prop} (hM : Call E y' d' mc' ms' (vR b :: as) h Q') (hd : decode y.2.1 pc = .ok (.invokevirtual idx, 3)) (hp : pc + 3 = pc')
    (hm : mt b = (ci, N)) (hck : CK ci C T N) (hcl : y'.1.cls = C) (w1 : Cond.methodLink y.1.cls idx y'.1 ∈ tw) (w2 : Cond.instanceMethod y'.1 ∈ tw) (w3 : Cond.selects y'.1.cls y'.1 y'.1 ∈ tw) (w4 : Cond.initialized y'.1.cls ∈ tw) (w5 : Cond.code y'.1 y'.2.1 y'.2.2.1 y'.2.2.2 ∈ tw)
    (hy : y'.1.cls ≠ "java/lang/invoke/MethodHandle" ∧ y'.1.cls ≠ "java/lang/invoke/VarHandle" ∧ (parseMethodDescriptor y'.1.desc).map (fun d => d.parameters.length) = some n) (hn : as.length = n) (hdd : d' + 1 ≤ d) (hml' : y'.2.2.1 ≤ 45) (hf : cu + mc' ≤ mc ∧ su + ms' ≤ ms) (hr8 : (st.map fun v => if isL v = true then 2 else 1).sum ≤ 8)
    (K : ∀ r h', Q' r h' → (∀ a, h.2.2 a = true → h'.2.2 a = true) → G E y d mc ms Q h0 pc' L (r.toList ++ st) h' (cu + mc') (su + ms')) : G E y d mc ms Q h0 pc L (as.reverse ++ vR b :: st) h cu su := by
  subst hp
  intro p e s m args below meth c adr0 adr H locs ls CC hE hS hW ho hoL hl
  obtain ⟨hx, hb, hml, hr, hlk', hown, hnm, hts, hK, hN, hX, hbs, hok⟩ := id CC
  obtain ⟨⟨nl, hnl, hP, hD⟩, hcl'⟩ := id hS
  obtain ⟨c1, c2, -⟩ := hck
  have hoa : okS h (vR b :: as) := fun w hw => by
    rcases List.mem_cons.mp hw with z | z
    · rw [z]; exact ho _ (List.mem_append_right _ List.mem_cons_self)
    · exact ho w (List.mem_append_left _ (List.mem_reverse.mpr z))
  have hos : okS h st := fun w hw => ho w (List.mem_append_right _ (List.mem_cons_of_mem _ hw))
  have ha : h.2.2 b = true := okS_hd hoa b rfl
  obtain ⟨k0, hk0, hw⟩ := Sm.at (E := E) (adr := adr) hnl ha (by rw [hm]; show ci < 25; omega)
  rw [cE_O hm c2] at hw
  have hG : GoodIn tw (wsV y.1.cls idx y'.1.cls y'.1 (ws1 y')) := fun w hw => by
    rcases List.mem_append.mp hw with z | z
    · have z2 : w ∈ tw := by
        simp only [List.mem_cons, List.not_mem_nil, or_false] at z
        rcases z with rfl | rfl | rfl | rfl
        · exact w1
        · exact w2
        · exact w3
        · exact w4
      exact tw_good w z2
    · exact ws1_good w5 w z
  have run := va_runV (R := room d mc ms) (H := H) (locs := locs) (below := below) (e := e) (cells := cu) (slots := su) (l := E.1) (meth := meth) (As := as.map (tv adr)) (rest := st.map (tv adr)) (g := F0 m pc ls ((as.reverse ++ vR b :: st).map (tv adr))) (b := adr b) (C := y'.1.cls) (nL := y.2.2.1) ⟨hx, hb, hml, hown, hts⟩ (hM adr) (cwV n hts hG rfl rfl rfl ⟨rfl, hy⟩ (room_ok hdd hml'))
    ⟨PU_blind hok, by rw [hcl]; exact va_recv hK hP c1 hw, fun U hU hWm => PU_at CC hE hS hW hoa U hU hWm⟩ rfl (by rw [List.length_map]; exact hn) hl.1 (by show (as.reverse ++ vR b :: st).map (tv adr) = (as.map (tv adr)).reverse ++ _; rw [List.map_append, List.map_reverse]; rfl) (lv_room (cat_le hr8)) hd hf
  exact g_back CC hE hW hos hoL hl run K
/-- invokestatic, a method of the own class -/
theorem g_invS {y' : Mt} {d' mc' ms' n idx : Nat} {as : List V} {Q' : Option V → Hp → Prop} (hM : Call E y' d' mc' ms' as h Q') (hd : decode y.2.1 pc = .ok (.invokestatic idx, 3)) (hp : pc + 3 = pc')
    (w1 : Cond.methodLink y.1.cls idx y'.1 ∈ tw) (w2 : Cond.static y'.1 ∈ tw) (w4 : Cond.initialized y'.1.cls ∈ tw) (w5 : Cond.code y'.1 y'.2.1 y'.2.2.1 y'.2.2.2 ∈ tw)
    (hy : y'.1.cls ≠ "java/lang/invoke/MethodHandle" ∧ y'.1.cls ≠ "java/lang/invoke/VarHandle" ∧ (parseMethodDescriptor y'.1.desc).map (fun d => d.parameters.length) = some n) (hn : as.length = n) (hdd : d' + 1 ≤ d) (hml' : y'.2.2.1 ≤ 45) (hf : cu + mc' ≤ mc ∧ su + ms' ≤ ms) (hr8 : (st.map fun v => if isL v = true then 2 else 1).sum ≤ 8)
    (K : ∀ r h', Q' r h' → (∀ a, h.2.2 a = true → h'.2.2 a = true) → G E y d mc ms Q h0 pc' L (r.toList ++ st) h' (cu + mc') (su + ms')) : G E y d mc ms Q h0 pc L (as.reverse ++ st) h cu su := by
  subst hp
  intro p e s m args below meth c adr0 adr H locs ls CC hE hS hW ho hoL hl
  obtain ⟨hx, hb, hml, hr, hlk', hown, hnm, hts, hK, hN, hX, hbs, hok⟩ := id CC
  have hoa : okS h as := fun w hw => ho w (List.mem_append_left _ (List.mem_reverse.mpr hw))
  have hos : okS h st := fun w hw => ho w (List.mem_append_right _ hw)
  have hG : GoodIn tw (va_wsS y.1.cls idx y'.1 (ws1 y')) := fun w hw => by
    rcases List.mem_append.mp hw with z | z
    · have z2 : w ∈ tw := by
        simp only [List.mem_cons, List.not_mem_nil, or_false] at z
        rcases z with rfl | rfl | rfl
        · exact w1
        · exact w2
        · exact w4
      exact tw_good w z2
    · exact ws1_good w5 w z
  have run := va_runS (R := room d mc ms) (H := H) (locs := locs) (below := below) (e := e) (cells := cu) (slots := su) (l := E.1) (meth := meth) (As := as.map (tv adr)) (rest := st.map (tv adr)) (g := F0 m pc ls ((as.reverse ++ st).map (tv adr))) (nL := y.2.2.1) ⟨hx, hb, hml, hown, hts⟩ (hM adr) (va_cwS n hts hG rfl rfl rfl hy (room_ok hdd hml'))
    ⟨PU_blind hok, fun U hU hWm => PU_at CC hE hS hW hoa U hU hWm⟩ rfl (by rw [List.length_map]; exact hn) hl.1 (by show (as.reverse ++ st).map (tv adr) = (as.map (tv adr)).reverse ++ _; rw [List.map_append, List.map_reverse]) (lv_room (cat_le hr8)) hd hf
  exact g_back CC hE hW hos hoL hl run K
/-- a private static method of the class around -/
theorem g_invSN {y' : Mt} {d' mc' ms' n idx : Nat} {host : String} {as : List V} {Q' : Option V → Hp → Prop} (hM : Call E y' d' mc' ms' as h Q') (hd : decode y.2.1 pc = .ok (.invokestatic idx, 3)) (hp : pc + 3 = pc')
    (w1 : Cond.methodLinkNest y.1.cls idx y'.1 host ∈ nwl) (w2 : Cond.static y'.1 ∈ tw) (w4 : Cond.initialized y'.1.cls ∈ tw) (w5 : Cond.code y'.1 y'.2.1 y'.2.2.1 y'.2.2.2 ∈ tw)
    (hy : y'.1.cls ≠ "java/lang/invoke/MethodHandle" ∧ y'.1.cls ≠ "java/lang/invoke/VarHandle" ∧ (parseMethodDescriptor y'.1.desc).map (fun d => d.parameters.length) = some n) (hn : as.length = n) (hdd : d' + 1 ≤ d) (hml' : y'.2.2.1 ≤ 45) (hf : cu + mc' ≤ mc ∧ su + ms' ≤ ms) (hr8 : (st.map fun v => if isL v = true then 2 else 1).sum ≤ 8)
    (K : ∀ r h', Q' r h' → (∀ a, h.2.2 a = true → h'.2.2 a = true) → G E y d mc ms Q h0 pc' L (r.toList ++ st) h' (cu + mc') (su + ms')) : G E y d mc ms Q h0 pc L (as.reverse ++ st) h cu su := by
  subst hp
  intro p e s m args below meth c adr0 adr H locs ls CC hE hS hW ho hoL hl
  obtain ⟨hx, hb, hml, hr, hlk', hown, hnm, hts, hK, hN, hX, hbs, hok⟩ := id CC
  have hoa : okS h as := fun w hw => ho w (List.mem_append_left _ (List.mem_reverse.mpr hw))
  have hos : okS h st := fun w hw => ho w (List.mem_append_right _ hw)
  have run := va_runSN (R := room d mc ms) (H := H) (locs := locs) (below := below) (e := e) (cells := cu) (slots := su) (l := E.1) (meth := meth) (As := as.map (tv adr)) (rest := st.map (tv adr)) (g := F0 m pc ls ((as.reverse ++ st).map (tv adr))) (nL := y.2.2.1) ⟨hx, hb, hml, hown, hts⟩ (hM adr) ⟨va_cnB n hts (ws1_good w5) rfl rfl rfl (hN _ w1) (hts _ w4) hy (room_ok hdd hml'), hts _ w2, trivial⟩
    ⟨PU_blind hok, fun U hU hWm => PU_at CC hE hS hW hoa U hU hWm⟩ rfl (by rw [List.length_map]; exact hn) hl.1 (by show (as.reverse ++ st).map (tv adr) = (as.map (tv adr)).reverse ++ _; rw [List.map_append, List.map_reverse]) (lv_room (cat_le hr8)) hd hf
  exact g_back CC hE hW hos hoL hl run K
/-- a constructor -/
theorem g_invI {y' : Mt} {d' mc' ms' n idx : Nat} {as : List V} {b : Ad} {Q' : Option V → Hp → Prop} (hM : Call E y' d' mc' ms' (vR b :: as) h Q') (hd : decode y.2.1 pc = .ok (.invokespecial idx, 3)) (hp : pc + 3 = pc')
    (w1 : Cond.methodLink y.1.cls idx y'.1 ∈ tw) (w2 : Cond.instanceMethod y'.1 ∈ tw) (w4 : Cond.initialized y'.1.cls ∈ tw) (w5 : Cond.code y'.1 y'.2.1 y'.2.2.1 y'.2.2.2 ∈ tw) (hyn : y'.1.name = "<init>") (hyr : y'.2.2.2 = none)
    (hy : y'.1.cls ≠ "java/lang/invoke/MethodHandle" ∧ y'.1.cls ≠ "java/lang/invoke/VarHandle" ∧ (parseMethodDescriptor y'.1.desc).map (fun d => d.parameters.length) = some n) (hn : as.length = n) (hdd : d' + 1 ≤ d) (hml' : y'.2.2.1 ≤ 45) (hf : cu + mc' ≤ mc ∧ su + ms' ≤ ms) (hr8 : (st.map fun v => if isL v = true then 2 else 1).sum ≤ 8)
    (K : ∀ r h', Q' r h' → (∀ a, h.2.2 a = true → h'.2.2 a = true) → G E y d mc ms Q h0 pc' L (r.toList ++ st) h' (cu + mc') (su + ms')) : G E y d mc ms Q h0 pc L (as.reverse ++ vR b :: st) h cu su := by
  subst hp
  intro p e s m args below meth c adr0 adr H locs ls CC hE hS hW ho hoL hl
  obtain ⟨hx, hb, hml, hr, hlk', hown, hnm, hts, hK, hN, hX, hbs, hok⟩ := id CC
  have hoa : okS h (vR b :: as) := fun w hw => by
    rcases List.mem_cons.mp hw with z | z
    · rw [z]; exact ho _ (List.mem_append_right _ List.mem_cons_self)
    · exact ho w (List.mem_append_left _ (List.mem_reverse.mpr z))
  have hos : okS h st := fun w hw => ho w (List.mem_append_right _ (List.mem_cons_of_mem _ hw))
  have run := va_runI (R := room d mc ms) (H := H) (locs := locs) (below := below) (e := e) (cells := cu) (slots := su) (l := E.1) (meth := meth) (As := as.map (tv adr)) (rest := st.map (tv adr)) (g := F0 m pc ls ((as.reverse ++ vR b :: st).map (tv adr))) (b := adr b) (nL := y.2.2.1) (bytes := y'.2.1) (maxL := y'.2.2.1) ⟨hx, hb, hml, hown, hts⟩ (hM adr) ⟨callB_of (ws' := tw) n hts (ws1_good w5) (by rw [hyr]) rfl rfl (hts _ w4) (hts _ w1) hy (room_ok hdd hml'), hyn, hts _ w2⟩
    ⟨PU_blind hok, fun U hU hWm => PU_at CC hE hS hW hoa U hU hWm⟩ rfl (by rw [List.length_map]; exact hn) hl.1 (by show (as.reverse ++ vR b :: st).map (tv adr) = (as.map (tv adr)).reverse ++ _; rw [List.map_append, List.map_reverse]; rfl) (lv_room (cat_le hr8)) hd hf
  exact g_back CC hE hW hos hoL hl run K
end GC
