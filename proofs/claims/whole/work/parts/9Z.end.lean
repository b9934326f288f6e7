/-! THE LAW, from its entry -/
set_option maxRecDepth 20000 in
theorem law_first {E : En} (hok : EOK E) (hmu : Gmu E) {L : Nat} {xs : Nat → Int32} (hX : XS E L xs) (hL : L ≤ 3072) : G E m_L_law 1300 600000 7302250 (fun r _ => r = some (vI (nI 1))) hS 0 [some (vR (90, 0)), none, none, none] [] hS 0 0 := by
  refine g_new TH (by decide +kernel) (pc' := 3) dL_law_0 rfl rfl ck_12 cl_L_7 it_X11 in_X11 (by decide) (by decide) ?_
  refine g_dup (pc' := 4) dL_law_3 rfl rfl ?_
  refine g_invI (pc' := 7) (cx_house hok hmu) dL_law_4 rfl ml_L_9 im_X11_init in_X11 co_X11_init rfl rfl pd_X11_init rfl (by omega) (by decide) ⟨by decide, by decide⟩ (Nat.le_of_ble_eq_true rfl) ?_
  rintro _ _ ⟨rfl, rfl⟩ -
  refine g_astore_n (pc' := 8) dL_law_7 rfl (by decide) rfl ?_
  try simp only [List.set]
  refine g_new MO (by decide +kernel) (pc' := 11) dL_law_8 rfl rfl ck_13 cl_L_10 it_X12 in_X12 (by decide) (by decide) ?_
  refine g_dup (pc' := 12) dL_law_11 rfl rfl ?_
  refine g_invI (pc' := 15) (ct_model (h := nH thH MO) hok (by decide +kernel)) dL_law_12 rfl ml_L_12 im_X12_init in_X12 co_X12_init rfl rfl pd_X12_init rfl (by omega) (by decide) ⟨by decide, by decide⟩ (Nat.le_of_ble_eq_true rfl) ?_
  rintro _ _ ⟨rfl, rfl⟩ -
  refine g_astore_n (pc' := 16) dL_law_15 rfl (by decide) rfl ?_
  try simp only [List.set]
  refine g_iconstN (n := 0) (pc' := 17) dL_law_16 rfl ?_
  refine g_istore_n (pc' := 18) dL_law_17 rfl (by decide) rfl ?_
  try simp only [List.set]
  show G E m_L_law 1300 600000 7302250 _ hS 18 _ [] h3Z _ _
  refine G.ext h3_2 h3_1 ?_
  exact law_loop hok hX hL (fun _ => rfl) 513 0 0 m0 hZ _ _ rfl (by decide) in_0 cp_0 hZ_mo ⟨by decide, by decide⟩ (by decide)
def R_law : String := "ToyHouseLaw"
def lw_P (b : Addr) (xs : List Int32) (args : Array Value) (s : State) : Prop := args = #[.ref b] ∧ s.IntsAt b xs ∧ xs.length ≤ 3072 ∧ (Jvm.Cond.and given_1 narrow_1).before args s = true
def lw_Q (_ : Array Value) (s : State) (o : Outcome) (t : State) : Prop := o = .returned (some (.int 1)) ∧ Framed s o t [] 600000 7302250
def lw_Z (below : List Frame) (a : Array Value) (s : State) : State → Prop := fun t => ∃ o, t.status = .running ∧ Ended t below o ∧ lw_Q a s o t
def lw_At (p : Program) (s : State) (m : MethodId) (meth : Method) (c : Code) (b L : Nat) (xs : Nat → Int32) : Prop :=
  p.tables.exec = Jvm.exec ∧ c.code = code ∧ meth.sig.returnType = ret ∧ c.maxLocals = 4 ∧ s.vm.findClass R_law = some m.cls ∧ (∀ w ∈ lw_tbl, w.before #[Value.ref b] s = true) ∧ va_X b L xs s s.heap ∧ b < s.heap.size ∧ meth.locks = false ∧ (Jvm.Cond.and given_1 narrow_1).before #[Value.ref b] s = true ∧ meth.name = x.name
def adrS (b a91 a92 a93 a94 : Nat) : Ad → Nat := fun a => if a = (90, 0) then b else if a = (91, 0) then a91 else if a = (92, 0) then a92 else if a = (93, 0) then a93 else a94
theorem room_less {s : State} {pl : Platform} (h : s.hasRoom pl room_1 = true) : s.hasRoom pl (room 1300 600000 7302250) = true := by
  simp only [State.hasRoom, Bool.and_eq_true, decide_eq_true_eq] at h ⊢
  obtain ⟨⟨⟨⟨h1, h2, h3, h4, h5, h6⟩, h7⟩, h8⟩, h9⟩ := h
  have e1 : (room 1300 600000 7302250).frames ≤ room_1.frames := by decide
  have e2 : (room 1300 600000 7302250).locals ≤ room_1.locals := by decide
  exact ⟨⟨⟨⟨by omega, by omega, by omega, by omega, by omega, h6⟩, h7⟩, h8⟩, h9⟩
theorem whole_start {p : Program} {e : Env} {s : State} {m : MethodId} {below : List Frame} {meth : Method} {c : Code} (l : Launch) {b L : Nat} {xs : Nat → Int32} (hL : L ≤ 3072) (C0 : lw_At p s m meth c b L xs) : W p l e room_1 s m #[Value.ref b] below meth c s.heap [] 0 0 (lw_Z below #[Value.ref b] s) (entryFrame m ([Value.ref b] : List Value).toArray 4) := by
  obtain ⟨hx, hb, hr, hml, hown, hts, hX, hbl, hlocks, hgv, hnm⟩ := id C0
  obtain ⟨D, aC, hK⟩ := k_start hts
  obtain ⟨a91, a92, a93, a94, hF⟩ := fx_start hts hgv
  have hok : EOK (l, s.heap.size, D, aC, EX s.heap.size L xs) := EX_ok
  have hXS : XS (l, s.heap.size, D, aC, EX s.heap.size L xs) L xs := fun adr s h => h.2
  have hEX : EX s.heap.size L xs (adrS b a91 a92 a93 a94) s := ⟨hF _ rfl rfl rfl rfl, hX, Nat.not_le.mpr hbl, hbl⟩
  have g0 := law_first hok (gmu hok) hXS hL
  have hl := lv_entry ([.ref b]) (n := 4) (Nat.le_of_ble_eq_true rfl)
  rw [lg_entry_eq]
  generalize (lg_sl ([.ref b]) ++ List.replicate (4 - (lg_sl ([.ref b])).length) Slot.unset).toArray = ls at hl ⊢
  have hl : lv_has ls 4 [(0, .ref b)] := hl
  have hm0 : Sm (l, s.heap.size, D, aC, EX s.heap.size L xs) (adrS b a91 a92 a93 a94) hS s.heap := by
    refine ⟨⟨[], fun a => ⟨fun z => (by cases z), fun z => ?_⟩, fun k q h => (by simp [wO] at h), ⟨fun i j p q h => (by simp [wO] at h), fun k q h => by simp [wO] at h⟩⟩, fun a j b _ h => by cases h⟩
    have z1 := av_0 a z.1
    have z2 := z.2
    simp only [List.mem_cons, List.not_mem_nil, or_false] at z1
    rcases z1 with rfl | rfl | rfl | rfl | rfl <;> exact absurd z2 (by decide)
  have ho : okL hS [some (vR (90, 0)), none, none, none] := fun v hv => by
    simp only [List.mem_cons, List.not_mem_nil, or_false, Option.some.injEq, reduceCtorEq] at hv
    rw [hv]
    exact okV_R (by decide)
  have hH : LH (adrS b a91 a92 a93 a94) ls 4 [some (vR (90, 0)), none, none, none] := ⟨hl.1, hl.2.1, fun i v hi => by
    match i, hi with
    | 0, hi => cases hi; exact hl.2.2 (0, .ref b) List.mem_cons_self
    | 1, hi => cases hi
    | 2, hi => cases hi
    | 3, hi => cases hi
    | i + 4, hi => cases hi⟩
  have w0 := g0 p e s m #[Value.ref b] below meth c (adrS b a91 a92 a93 a94) (adrS b a91 a92 a93 a94) s.heap [] ls ⟨hx, hb, hml, hr, hlocks, hown, hnm, tw_hts hts, hK, nw_start hts, hEX, Nat.le_refl _, hok⟩ Lat.rf hm0 va_S.rf (okS_nil _) ho hH
  intro T hT X
  obtain ⟨t, st, oc, q1, q2, ⟨⟨r, adr', h', e1, e2, -⟩, -⟩, Lc, hFE, hfree⟩ := w0 T hT ⟨X.admits, X.cas, X.clock, X.frames, room_less X.room, X.hears, X.method, X.code, X.here, X.tail, X.warmed, X.limits, X.bytes, X.same⟩
  subst e2
  subst e1
  exact ⟨t, st, _, q1, q2, rfl, hFE.1, hFE.2.1, same_new hFE.2.2 hfree⟩
set_option maxHeartbeats 4000000 in
theorem lw_walk (l : Launch) (b : Addr) (xs : List Int32) : MetFree l x (headSpec (Jvm.Cond.code x code maxLocals ret :: tables_1) room_1) (lw_P b xs) (fun _ _ _ _ _ => True) lw_Q := by
  refine MetFree.of_bodyS (code := code) (maxLocals := maxLocals) (ret := ret) (by decide) ?_ ?_
  · intro args s m h hn
    obtain ⟨meth, c, h1, h2, h3, h4, h5, h6, -, -⟩ := Cond.code_spec hn (atoms_spec (ws := Jvm.Cond.code x code maxLocals ret :: tables_1) h _ List.mem_cons_self)
    exact ⟨meth, c, h1, h2, h3, h4, h5, h6⟩
  · intro p e s m args below meth c s₁ B hml0 hP _
    obtain ⟨rfl, hx, hbd, hgv⟩ := hP
    obtain ⟨scr, harrAt, hlist, hof, hsmall⟩ := hx
    obtain ⟨hcb, hkn, -, -⟩ := State.arrayAt?_spec harrAt
    have hown : s.vm.findClass R_law = some m.cls := findClass_of_methodNamed B.named
    have hts0 : ∀ c ∈ (Jvm.Cond.code x code maxLocals ret :: tables_1), c.before #[Value.ref b] s = true := atoms_spec (ws := Jvm.Cond.code x code maxLocals ret :: tables_1) B.pre
    have hts : ∀ w ∈ lw_tbl, w.before #[Value.ref b] s = true := k2_hts_sels lw_privs (fun w hw => hts0 w (List.mem_cons_of_mem _ hw)) lw_privs_ok
    have hml : c.maxLocals = 4 := B.maxLocals_eq (hts0 _ List.mem_cons_self)
    have X₀ : Stand p l e room_1 s m #[Value.ref b] below meth c s₁ [] 0 0 := Stand.of_body B
    have hh0 : s₁.heap = s.heap := by rw [B.state]; rfl
    have hsz : scr.slots.size = xs.length := by rw [← Array.length_toList, hlist, List.length_map]
    have hval : ∀ j : Nat, j < xs.length → scr.slots[j]? = some (.int (xs.getD j 0)) := fun j hj => by
      rw [← Array.getElem?_toList, hlist]
      simp [hj]
    have hbl : b < s.heap.size := (Array.getElem?_eq_some_iff.mp hcb).1
    have hX : va_X b xs.length (fun j => xs.getD j 0) s s.heap := ⟨scr, hcb, hof, hkn, hsz, hval⟩
    have K : W p l e room_1 s m #[Value.ref b] below meth c s₁.heap [] 0 0 (lw_Z below #[Value.ref b] s) (entryFrame m ([Value.ref b] : List Value).toArray 4) := by
      rw [hh0]
      exact whole_start l hbd ⟨B.exec, B.bytes, B.returns, hml, hown, hts, hX, hbl, B.notSynchronized, hgv, (name_of_methodNamed B.named B.method).1⟩
    obtain ⟨t, a1, o, b1, b2, b3⟩ := K s₁ rfl X₀
    exact ⟨t, o, a1, b1, b2, b3⟩
theorem lw_pre_spec {args : Array Value} {s : State} (h : (Jvm.Cond.and given_1 narrow_1).before args s = true) (hr : rest_1_c.before args s = true) : ∃ (b : Addr) (xs : List Int32), lw_P b xs args s := by
  have hs := flat_of_before _ h
  have hq := flat_of_before _ hr
  have hc : (Cond.count 1).before args s = true := hs _ (by decide +kernel)
  have harr : (Cond.arrayOf (.arg 0) .int).before args s = true := hs _ (by decide +kernel)
  have hle : (Cond.le (.length (.arg 0)) (.int 3072)).before args s = true := hs _ (by decide +kernel)
  have hlen : (Cond.isInt (.length (.arg 0))).before args s = true := hq _ (by decide +kernel)
  have hall : (Cond.all (.arg 0) (.isInt (.elem (.arg 0) (.index 0)))).before args s = true := hq _ (by decide +kernel)
  obtain ⟨b, xs, hb, hx⟩ := State.ints_of_pre rfl harr hlen hall
  have hsm : xs.length < 2 ^ 31 := hx.choose_spec.2.2.2
  have hev : (Term.length (.arg 0)).eval args s none [] s = some (.int xs.length.toInt32) := hx.length_eval hb
  have hv := Cond.le_ints hev (show (Term.int 3072).eval args s none [] s = some (.int 3072) from rfl)
  have hd : xs.length.toInt32 ≤ 3072 := by
    simpa [Cond.before, Cond.holds, hv] using hle
  have hN : xs.length ≤ 3072 := (Int32.ofNat_le_ofNat hsm (by decide)).mp (show Int32.ofNat xs.length ≤ Int32.ofNat 3072 from hd)
  exact ⟨b, xs, Cond.one_arg hc (show args[0]? = some (.ref b) from hb), hx, hN, h⟩
theorem lw_comes (l : Launch) : Comes l x (Jvm.Cond.code x code maxLocals ret :: tables_1) room_1 (fun tb e args s => Calls_1 tb e args s ∧ rest_1 tb e args s ∧ Pre_1 tb e args s)
    (fun _ _ args s o t => lw_Q args s o t) := by
  intro p e ha hc hk s m args below hf hfit hheap happ hpre
  obtain ⟨b, xs, hP⟩ := lw_pre_spec hpre.2.2 hpre.2.1
  obtain ⟨k, o, h1, h2, h3, hQ⟩ := lw_walk l b xs p e ha hc hk s m args below hf ((Spec.applies_iff_loose hf).mp happ).1 hP trivial
  exact ⟨k, o, h1, h2, h3, hQ⟩
theorem lw_frame {s t : State} {o : Outcome} {args : Array Value} (h : Framed s o t [] 600000 7302250) :
    Framed s o t (fieldLocs frame_1_writes args s ++ arrayLocs frame_1_arrays args s ++ staticLocs frame_1_statics s) 600000 7302250 := h
theorem lw_limb (L : Cond) (hL : ∀ (args : Array Value) (s t : State), L.after args s (.returned (some (.int 1))) t = true) :
    ArmFor flags0 classFile x code maxLocals ret World_1 tables_1 room_1 Calls_1 rest_1 Pre_1
      (fun tb e a s o t => postC L tb e a s o t ∧ Framed s o t (fieldLocs frame_1_writes a s ++ arrayLocs frame_1_arrays a s ++ staticLocs frame_1_statics s) 600000 7302250) := by
  intro l _ _ _ p e ha hc hk s m args below hf hfit hheap happ hpre
  obtain ⟨k, o, h1, h2, h3, rfl, hF⟩ := lw_comes l p e ha hc hk s m args below hf hfit hheap happ hpre
  exact ⟨k, _, h1, h2, h3, hL args s _, lw_frame hF⟩
theorem i_vc : Claimed_1_1 ∧ Claimed_1_2 := ⟨lw_limb limb_1_1 (fun args s t => by simp [limb_1_1, Cond.after, Cond.holds, Cond.value]), lw_limb limb_1_2 (fun args s t => Cond.after_iff.mpr (by
  first | (rw [show limb_1_2 = Cond.eq .result (.int 1) from rfl, Cond.eq_ints (x := 1) (y := 1) rfl rfl]; simp; done) | (simp [limb_1_2, Cond.value, Term.eval]; done)))⟩
