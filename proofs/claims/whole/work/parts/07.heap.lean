/-! the rules that read and write cells -/
def wI (h : Hp) (a : Ad) (j : Nat) (x : Int32) : Hp := (fun b => if b = a then upd (h.1 a) j x else h.1 b, h.2)
def wR (h : Hp) (a : Ad) (j : Nat) (r : Option Ad) : Hp := (h.1, fun b => if b = a then va_up (h.2.1 a) j r else h.2.1 b, h.2.2)
theorem wI_same (h : Hp) (a : Ad) (j : Nat) (x : Int32) : (wI h a j x).1 a j = x := by simp [wI, upd]
theorem wI_at (h : Hp) (a : Ad) (j : Nat) (x : Int32) (b : Ad) (i : Nat) : (wI h a j x).1 b i = if b = a ∧ i = j then x else h.1 b i := by
  unfold wI upd
  by_cases e : b = a
  · subst e
    by_cases f : i = j <;> simp [f]
  · simp [e]
theorem wI_2 (h : Hp) (a : Ad) (j : Nat) (x : Int32) : (wI h a j x).2 = h.2 := rfl
theorem wR_1 (h : Hp) (a : Ad) (j : Nat) (r : Option Ad) : (wR h a j r).1 = h.1 := rfl
theorem wR_a (h : Hp) (a : Ad) (j : Nat) (r : Option Ad) : (wR h a j r).2.2 = h.2.2 := rfl
theorem wR_at (h : Hp) (a : Ad) (j : Nat) (r : Option Ad) (b : Ad) (i : Nat) : (wR h a j r).2.1 b i = if b = a ∧ i = j then r else h.2.1 b i := by
  unfold wR va_up
  by_cases e : b = a
  · subst e
    by_cases f : i = j <;> simp [f]
  · simp [e]
/-- what is known of a class: its place in the list, its words, its fields -/
def CK (ci : Nat) (C : String) (T : u_T) (N : Nat) : Prop := vwCl[ci]? = some (C, T, N) ∧ ci < 20 ∧ (∀ w ∈ u_ws C T N, w ∈ tw) ∧ (∀ k, k < N → parseFieldDescriptor (T k).2.2.1 = some (vty ci k)) ∧ (∀ a, a < N → ∀ b, b < N → a ≠ b → (T a).2.1 ≠ (T b).2.1) ∧ ∀ j, j < N → defaultValue (vty ci j) = if isR ci j = true then .null else .int 0
theorem ck_0 : CK 0 RJx4a65c TJx4a65c 3 := ⟨rfl, by decide, ly_Jx4a65c, tyJx4a65c_ok, nmJx4a65c, by decide +kernel⟩
theorem ck_1 : CK 1 RX0 TX0 6 := ⟨rfl, by decide, ly_X0, tyX0_ok, nmX0, by decide +kernel⟩
theorem ck_2 : CK 2 RX1 TX1 7 := ⟨rfl, by decide, ly_X1, tyX1_ok, nmX1, by decide +kernel⟩
theorem ck_3 : CK 3 RX2 TX2 8 := ⟨rfl, by decide, ly_X2, tyX2_ok, nmX2, by decide +kernel⟩
theorem ck_4 : CK 4 RX3 TX3 3 := ⟨rfl, by decide, ly_X3, tyX3_ok, nmX3, by decide +kernel⟩
theorem ck_5 : CK 5 RX4 TX4 6 := ⟨rfl, by decide, ly_X4, tyX4_ok, nmX4, by decide +kernel⟩
theorem ck_6 : CK 6 RX5 TX5 5 := ⟨rfl, by decide, ly_X5, tyX5_ok, nmX5, by decide +kernel⟩
theorem ck_7 : CK 7 RX6 TX6 13 := ⟨rfl, by decide, ly_X6, tyX6_ok, nmX6, by decide +kernel⟩
theorem ck_8 : CK 8 RX7 TX7 10 := ⟨rfl, by decide, ly_X7, tyX7_ok, nmX7, by decide +kernel⟩
theorem ck_9 : CK 9 RX8 TX8 15 := ⟨rfl, by decide, ly_X8, tyX8_ok, nmX8, by decide +kernel⟩
theorem ck_10 : CK 10 RX9 TX9 11 := ⟨rfl, by decide, ly_X9, tyX9_ok, nmX9, by decide +kernel⟩
theorem ck_11 : CK 11 RX10 TX10 9 := ⟨rfl, by decide, ly_X10, tyX10_ok, nmX10, by decide +kernel⟩
theorem ck_12 : CK 12 RX11 TX11 20 := ⟨rfl, by decide, ly_X11, tyX11_ok, nmX11, by decide +kernel⟩
theorem ck_13 : CK 13 RX12 TX12 92 := ⟨rfl, by decide, ly_X12, tyX12_ok, nmX12, by decide +kernel⟩
theorem oC_at {adr : Ad → Nat} {h : Hp} {c n k : Nat} {a : Ad} (hk : k < n) : (oC adr h c n a)[k]? = some (if isR c k = true then va_rf ((h.2.1 a k).map adr) else .int (h.1 a k)) := by
  unfold oC
  rw [List.getElem?_map, List.getElem?_range hk]
  rfl
theorem oC_len {adr : Ad → Nat} {h : Hp} {c n : Nat} {a : Ad} : (oC adr h c n a).length = n := by simp [oC]
theorem cE_O {aC : Nat → ClassId} {adr : Ad → Nat} {h : Hp} {a : Ad} {ci N : Nat} (hm : mt a = (ci, N)) (hc : ci < 20) : cE aC adr h a = .inr (ci, oC adr h ci N a) := by
  unfold cE
  rw [hm]
  exact if_pos hc
theorem cE_A {aC : Nat → ClassId} {adr : Ad → Nat} {h : Hp} {a : Ad} {k N : Nat} (hm : mt a = (k, N)) (h1 : 20 ≤ k) (h2 : k < 23) : cE aC adr h a = .inl (aC k, N, .inl (h.1 a)) := by
  unfold cE
  rw [hm]
  rw [if_neg (Nat.not_lt.mpr h1), if_pos h2]
theorem cE_Q {aC : Nat → ClassId} {adr : Ad → Nat} {h : Hp} {a : Ad} {k N : Nat} (hm : mt a = (k, N)) (h1 : 23 ≤ k) : cE aC adr h a = .inl (aC k, N, .inr (.inr (.inr (.inr fun j => (h.2.1 a j).map adr)))) := by
  unfold cE
  rw [hm]
  rw [if_neg (by show ¬ k < 20; omega), if_neg (by show ¬ k < 23; omega)]
theorem oC_I {adr : Ad → Nat} {h : Hp} {c n k : Nat} {a : Ad} {x : Int32} (hk : k < n) (hR : isR c k = false) : (oC adr h c n a).set k (.int x) = oC adr (wI h a k x) c n a := by
  apply List.ext_getElem?
  intro i
  by_cases e : i = k
  · subst e
    rw [List.getElem?_set_self (by rw [oC_len]; exact hk), oC_at hk, if_neg (by rw [hR]; exact Bool.false_ne_true), wI_same]
  · rw [List.getElem?_set_ne (Ne.symm e)]
    by_cases hi : i < n
    · rw [oC_at hi, oC_at hi]; simp [wI_2, wI_at, e]
    · rw [List.getElem?_eq_none (by rw [oC_len]; omega), List.getElem?_eq_none (by rw [oC_len]; omega)]
theorem oC_R {adr : Ad → Nat} {h : Hp} {c n k : Nat} {a : Ad} {r : Option Ad} (hk : k < n) (hR : isR c k = true) : (oC adr h c n a).set k (va_rf (r.map adr)) = oC adr (wR h a k r) c n a := by
  apply List.ext_getElem?
  intro i
  by_cases e : i = k
  · subst e
    rw [List.getElem?_set_self (by rw [oC_len]; exact hk), oC_at hk, if_pos hR, wR_at, if_pos ⟨rfl, rfl⟩]
  · rw [List.getElem?_set_ne (Ne.symm e)]
    by_cases hi : i < n
    · rw [oC_at hi, oC_at hi]; simp [wR_1, wR_at, e]
    · rw [List.getElem?_eq_none (by rw [oC_len]; omega), List.getElem?_eq_none (by rw [oC_len]; omega)]
theorem wI_off (h : Hp) (a : Ad) (j : Nat) (x : Int32) : ∀ b, b ≠ a → (wI h a j x).1 b = h.1 b := fun b e => if_neg e
theorem wR_off (h : Hp) (a : Ad) (j : Nat) (r : Option Ad) : ∀ b, b ≠ a → (wR h a j r).2.1 b = h.2.1 b := fun b e => if_neg e
/-- a cell's place in the world -/
theorem Sm.at {E : En} {adr : Ad → Nat} {h : Hp} {nl : List Ad} (hn : ∀ a, a ∈ nl ↔ h.2.2 a = true ∧ (mt a).1 < 25) {a : Ad} (ha : h.2.2 a = true) (hm : (mt a).1 < 25) : ∃ k : Nat, nl[k]? = some a ∧ (wO E.2.2.2.1 adr h nl)[k]? = some (adr a, cE E.2.2.2.1 adr h a) := wO_at ((hn a).mpr ⟨ha, hm⟩)
section GH
variable {E : En} {y : Mt} {d mc ms : Nat} {Q : Option V → Hp → Prop} {h0 : Hp} {pc pc' : Nat} {L : List (Option V)} {st : List V} {h : Hp} {cu su : Nat}
theorem g_get {a : Ad} {n k ci N : Nat} {C ref : String} {T : u_T} {v : V} (hd : decode y.2.1 pc = .ok (.getfield n, 3)) (hp : pc + 3 = pc') (hm : mt a = (ci, N)) (hck : CK ci C T N) (hk : k < N) (hlk : Cond.fieldLink y.1.cls n ref (T k).2.1 (T k).2.2.1 ∈ tw) (hsm : ref = (T k).1 ∨ Cond.sameField ref (T k).1 (T k).2.1 (T k).2.2.1 ∈ tw)
    (hv : ∀ adr, (if isR ci k = true then va_rf ((h.2.1 a k).map adr) else .int (h.1 a k)) = tv adr v) (hov : h.2.2 a = true → (∀ a j b, h.2.2 a = true → h.2.1 a j = some b → h.2.2 b = true) → okV h v) (K : G E y d mc ms Q h0 pc' L (v :: st) h cu su) : G E y d mc ms Q h0 pc L (vR a :: st) h cu su := by
  subst hp
  intro p e s m args below meth c adr0 adr H locs ls CC hE hS hW ho hoL hl
  obtain ⟨hx, hb, hml, hr, hlk', hown, hnm, hts, hK, hN, hX, hbs, hok⟩ := id CC
  obtain ⟨⟨nl, hn, hP, hD⟩, hcl⟩ := id hS
  obtain ⟨c1, c2, c3, c4, c5, c6⟩ := hck
  have ha : h.2.2 a = true := okS_hd ho a rfl
  obtain ⟨k0, hk0, hw⟩ := Sm.at (E := E) (adr := adr) hn ha (by rw [hm]; show ci < 25; omega)
  rw [cE_O hm c2] at hw
  refine va_get (v := tv adr v) hx hb hts c3 hown hK hP k0 hw c1 k hk (hts _ hlk) ?_ (by rw [oC_at hk, hv adr]) hd (K p e s m args below meth c adr0 adr H locs ls CC hE hS hW (okS_cons (hov ha hcl) (okS_tl ho)) hoL hl)
  rcases hsm with q | q
  · intro x hx
    rw [q]; exact hx
  · exact u_same (hts _ q)
theorem g_getI {a : Ad} {n k ci N : Nat} {C : String} {T : u_T} (hd : decode y.2.1 pc = .ok (.getfield n, 3)) (hp : pc + 3 = pc') (hm : mt a = (ci, N)) (hck : CK ci C T N) (hk : k < N) (hlk : Cond.fieldLink y.1.cls n (T k).1 (T k).2.1 (T k).2.2.1 ∈ tw) (hR : isR ci k = false) (K : G E y d mc ms Q h0 pc' L (vI (h.1 a k) :: st) h cu su) : G E y d mc ms Q h0 pc L (vR a :: st) h cu su :=
  g_get hd hp hm hck hk hlk (Or.inl rfl) (fun _ => by rw [if_neg (by rw [hR]; exact Bool.false_ne_true)]; rfl) (fun _ _ => okV_I h _) K
theorem g_getR {a : Ad} {n k ci N : Nat} {C : String} {T : u_T} {r : Option Ad} (hd : decode y.2.1 pc = .ok (.getfield n, 3)) (hp : pc + 3 = pc') (hm : mt a = (ci, N)) (hck : CK ci C T N) (hk : k < N) (hlk : Cond.fieldLink y.1.cls n (T k).1 (T k).2.1 (T k).2.2.1 ∈ tw) (hR : isR ci k = true) (hr : h.2.1 a k = r) (K : G E y d mc ms Q h0 pc' L (vO r :: st) h cu su) : G E y d mc ms Q h0 pc L (vR a :: st) h cu su :=
  g_get hd hp hm hck hk hlk (Or.inl rfl) (fun adr => by rw [if_pos hR, hr, tv_O]) (fun ha hcl b e => by cases e; exact hcl a k b ha hr) K
theorem Sm_wI {adr : Ad → Nat} {H1 : Heap} {nl : List Ad} {a : Ad} {k j : Nat} {x : Int32} (hn : ∀ a, a ∈ nl ↔ h.2.2 a = true ∧ (mt a).1 < 25) (hD : va_D (eA E) (wO E.2.2.2.1 adr h nl)) (hcl : ∀ a j b, h.2.2 a = true → h.2.1 a j = some b → h.2.2 b = true) (hk : nl[k]? = some a)
    (hP1 : va_P E.2.2.1 vwCl ((wO E.2.2.2.1 adr h nl).set k (adr a, cE E.2.2.2.1 adr (wI h a j x) a)) H1) (hD1 : va_D (eA E) ((wO E.2.2.2.1 adr h nl).set k (adr a, cE E.2.2.2.1 adr (wI h a j x) a))) : Sm E adr (wI h a j x) H1 := by
  have e := wO_set (h' := wI h a j x) hD hk (wI_off h a j x) (fun _ _ => rfl)
  rw [e] at hP1 hD1
  exact ⟨⟨nl, hn, hP1, hD1⟩, hcl⟩
theorem Sm_wR {adr : Ad → Nat} {H1 : Heap} {nl : List Ad} {a : Ad} {k j : Nat} {r : Option Ad} (hn : ∀ a, a ∈ nl ↔ h.2.2 a = true ∧ (mt a).1 < 25) (hD : va_D (eA E) (wO E.2.2.2.1 adr h nl)) (hcl : ∀ a j b, h.2.2 a = true → h.2.1 a j = some b → h.2.2 b = true) (hr : ∀ b, r = some b → h.2.2 b = true) (hk : nl[k]? = some a)
    (hP1 : va_P E.2.2.1 vwCl ((wO E.2.2.2.1 adr h nl).set k (adr a, cE E.2.2.2.1 adr (wR h a j r) a)) H1) (hD1 : va_D (eA E) ((wO E.2.2.2.1 adr h nl).set k (adr a, cE E.2.2.2.1 adr (wR h a j r) a))) : Sm E adr (wR h a j r) H1 := by
  have e := wO_set (h' := wR h a j r) hD hk (fun _ _ => rfl) (wR_off h a j r)
  rw [e] at hP1 hD1
  refine ⟨⟨nl, hn, hP1, hD1⟩, fun b i z hb hz => ?_⟩
  rw [wR_at] at hz
  split at hz
  · exact hr z hz
  · exact hcl b i z hb hz
/-- putfield of a number -/
theorem g_putI {a : Ad} {n k ci N : Nat} {C : String} {T : u_T} {x : Int32} (hd : decode y.2.1 pc = .ok (.putfield n, 3)) (hp : pc + 3 = pc') (hm : mt a = (ci, N)) (hck : CK ci C T N) (hk : k < N) (hlk : Cond.fieldLink y.1.cls n (T k).1 (T k).2.1 (T k).2.2.1 ∈ tw) (hR : isR ci k = false) (hfin : (T k).2.2.2 = false) (hnw : narrow (vty ci k) (.int x) = .int x) (hft : fits (vty ci k) (.int x) = true)
    (K : G E y d mc ms Q h0 pc' L st (wI h a k x) cu su) : G E y d mc ms Q h0 pc L (vI x :: vR a :: st) h cu su := by
  subst hp
  intro p e s m args below meth c adr0 adr H locs ls CC hE hS hW ho hoL hl
  obtain ⟨hx, hb, hml, hr, hlk', hown, hnm, hts, hK, hN, hX, hbs, hok⟩ := id CC
  obtain ⟨⟨nl, hn, hP, hD⟩, hcl⟩ := id hS
  obtain ⟨c1, c2, c3, c4, c5, c6⟩ := hck
  have ha : h.2.2 a = true := okS_hd (okS_tl ho) a rfl
  obtain ⟨k0, hk0, hw⟩ := Sm.at (E := E) (adr := adr) hn ha (by rw [hm]; show ci < 25; omega)
  rw [cE_O hm c2] at hw
  refine va_put (v := .int x) hx hb hts c3 (vty ci) c4 c5 hown hK hP hD hW k0 hw c1 k hk (hts _ hlk) (fun _ q => q) hfin (c4 k hk) hnw hft (by rw [oC_len]; exact hk) hd (fun H1 locs1 hP1 hD1 hS1 => ?_)
  rw [oC_I hk hR, ← cE_O (aC := E.2.2.2.1) hm c2] at hP1 hD1
  exact K p e s m args below meth c adr0 adr H1 locs1 ls CC hE (Sm_wI hn hD hcl hk0 hP1 hD1) hS1 (okS_t2 ho) hoL hl
/-- of a final field, in a constructor -/
theorem g_putIF {a : Ad} {n k ci N : Nat} {C : String} {T : u_T} {x : Int32} (hd : decode y.2.1 pc = .ok (.putfield n, 3)) (hp : pc + 3 = pc') (hm : mt a = (ci, N)) (hck : CK ci C T N) (hk : k < N) (hlk : Cond.fieldLink y.1.cls n (T k).1 (T k).2.1 (T k).2.2.1 ∈ tw) (hR : isR ci k = false) (hfin : (T k).2.2.2 = true) (hin : y.1.name = "<init>") (hdc : (T k).1 = y.1.cls) (hnw : narrow (vty ci k) (.int x) = .int x) (hft : fits (vty ci k) (.int x) = true)
    (K : G E y d mc ms Q h0 pc' L st (wI h a k x) cu su) : G E y d mc ms Q h0 pc L (vI x :: vR a :: st) h cu su := by
  subst hp
  intro p e s m args below meth c adr0 adr H locs ls CC hE hS hW ho hoL hl
  obtain ⟨hx, hb, hml, hr, hlk', hown, hnm, hts, hK, hN, hX, hbs, hok⟩ := id CC
  obtain ⟨⟨nl, hn, hP, hD⟩, hcl⟩ := id hS
  obtain ⟨c1, c2, c3, c4, c5, c6⟩ := hck
  have ha : h.2.2 a = true := okS_hd (okS_tl ho) a rfl
  obtain ⟨k0, hk0, hw⟩ := Sm.at (E := E) (adr := adr) hn ha (by rw [hm]; show ci < 25; omega)
  rw [cE_O hm c2] at hw
  refine va_putF (v := .int x) hx hb hts c3 (vty ci) c4 c5 hown hK hP hD hW k0 hw c1 k hk (hts _ hlk) (fun _ q => q) hfin (hnm.trans hin) hdc (c4 k hk) hnw hft (by rw [oC_len]; exact hk) hd (fun H1 locs1 hP1 hD1 hS1 => ?_)
  rw [oC_I hk hR, ← cE_O (aC := E.2.2.2.1) hm c2] at hP1 hD1
  exact K p e s m args below meth c adr0 adr H1 locs1 ls CC hE (Sm_wI hn hD hcl hk0 hP1 hD1) hS1 (okS_t2 ho) hoL hl
theorem fit_R {ty : FieldType} {r : Option Nat} (ht : (match ty with | .object _ => true | .array _ => true | _ => false) = true) : narrow ty (va_rf r) = va_rf r ∧ fits ty (va_rf r) = true := by
  cases ty <;> first | (cases ht; done) | (cases r <;> exact ⟨rfl, rfl⟩)
/-- putfield of a reference -/
theorem g_putR {a : Ad} {n k ci N : Nat} {C : String} {T : u_T} {r : Option Ad} (hd : decode y.2.1 pc = .ok (.putfield n, 3)) (hp : pc + 3 = pc') (hm : mt a = (ci, N)) (hck : CK ci C T N) (hk : k < N) (hlk : Cond.fieldLink y.1.cls n (T k).1 (T k).2.1 (T k).2.2.1 ∈ tw) (hR : isR ci k = true) (hfin : (T k).2.2.2 = false)
    (K : G E y d mc ms Q h0 pc' L st (wR h a k r) cu su) : G E y d mc ms Q h0 pc L (vO r :: vR a :: st) h cu su := by
  subst hp
  intro p e s m args below meth c adr0 adr H locs ls CC hE hS hW ho hoL hl
  obtain ⟨hx, hb, hml, hr, hlk', hown, hnm, hts, hK, hN, hX, hbs, hok⟩ := id CC
  obtain ⟨⟨nl, hn, hP, hD⟩, hcl⟩ := id hS
  obtain ⟨c1, c2, c3, c4, c5, c6⟩ := hck
  have ha : h.2.2 a = true := okS_hd (okS_tl ho) a rfl
  obtain ⟨k0, hk0, hw⟩ := Sm.at (E := E) (adr := adr) hn ha (by rw [hm]; show ci < 25; omega)
  rw [cE_O hm c2] at hw
  show W p E.1 e (room d mc ms) s m args below meth c H locs cu su _ (F0 m pc ls (tv adr (vO r) :: .ref (adr a) :: st.map (tv adr)))
  rw [tv_O]
  have hf := fit_R (ty := vty ci k) (r := r.map adr) hR
  refine va_put hx hb hts c3 (vty ci) c4 c5 hown hK hP hD hW k0 hw c1 k hk (hts _ hlk) (fun _ q => q) hfin (c4 k hk) hf.1 hf.2 (by rw [oC_len]; exact hk) hd (fun H1 locs1 hP1 hD1 hS1 => ?_)
  rw [oC_R hk hR, ← cE_O (aC := E.2.2.2.1) hm c2] at hP1 hD1
  exact K p e s m args below meth c adr0 adr H1 locs1 ls CC hE (Sm_wR hn hD hcl (fun b q => okS_hd ho b (by rw [q])) hk0 hP1 hD1) hS1 (okS_t2 ho) hoL hl
theorem g_putRF {a : Ad} {n k ci N : Nat} {C : String} {T : u_T} {r : Option Ad} (hd : decode y.2.1 pc = .ok (.putfield n, 3)) (hp : pc + 3 = pc') (hm : mt a = (ci, N)) (hck : CK ci C T N) (hk : k < N) (hlk : Cond.fieldLink y.1.cls n (T k).1 (T k).2.1 (T k).2.2.1 ∈ tw) (hR : isR ci k = true) (hfin : (T k).2.2.2 = true) (hin : y.1.name = "<init>") (hdc : (T k).1 = y.1.cls)
    (K : G E y d mc ms Q h0 pc' L st (wR h a k r) cu su) : G E y d mc ms Q h0 pc L (vO r :: vR a :: st) h cu su := by
  subst hp
  intro p e s m args below meth c adr0 adr H locs ls CC hE hS hW ho hoL hl
  obtain ⟨hx, hb, hml, hr, hlk', hown, hnm, hts, hK, hN, hX, hbs, hok⟩ := id CC
  obtain ⟨⟨nl, hn, hP, hD⟩, hcl⟩ := id hS
  obtain ⟨c1, c2, c3, c4, c5, c6⟩ := hck
  have ha : h.2.2 a = true := okS_hd (okS_tl ho) a rfl
  obtain ⟨k0, hk0, hw⟩ := Sm.at (E := E) (adr := adr) hn ha (by rw [hm]; show ci < 25; omega)
  rw [cE_O hm c2] at hw
  show W p E.1 e (room d mc ms) s m args below meth c H locs cu su _ (F0 m pc ls (tv adr (vO r) :: .ref (adr a) :: st.map (tv adr)))
  rw [tv_O]
  have hf := fit_R (ty := vty ci k) (r := r.map adr) hR
  refine va_putF hx hb hts c3 (vty ci) c4 c5 hown hK hP hD hW k0 hw c1 k hk (hts _ hlk) (fun _ q => q) hfin (hnm.trans hin) hdc (c4 k hk) hf.1 hf.2 (by rw [oC_len]; exact hk) hd (fun H1 locs1 hP1 hD1 hS1 => ?_)
  rw [oC_R hk hR, ← cE_O (aC := E.2.2.2.1) hm c2] at hP1 hD1
  exact K p e s m args below meth c adr0 adr H1 locs1 ls CC hE (Sm_wR hn hD hcl (fun b q => okS_hd ho b (by rw [q])) hk0 hP1 hD1) hS1 (okS_t2 ho) hoL hl
end GH
section GA
variable {E : En} {y : Mt} {d mc ms : Nat} {Q : Option V → Hp → Prop} {h0 : Hp} {pc pc' : Nat} {L : List (Option V)} {st : List V} {h : Hp} {cu su : Nat}
theorem g_iald {a : Ad} {N : Nat} {i : Int32} (hd : decode y.2.1 pc = .ok (.iaload, 1)) (hp : pc + 1 = pc') (hm : mt a = (20, N)) (hin : vp_in i N) (K : G E y d mc ms Q h0 pc' L (vI (h.1 a i.toNatClampNeg) :: st) h cu su) : G E y d mc ms Q h0 pc L (vI i :: vR a :: st) h cu su := by
  subst hp
  intro p e s m args below meth c adr0 adr H locs ls CC hE hS hW ho hoL hl
  obtain ⟨hx, hb, hml, hr, hlk', hown, hnm, hts, hK, hN, hX, hbs, hok⟩ := id CC
  obtain ⟨⟨nl, hn, hP, hD⟩, hcl⟩ := id hS
  have ha : h.2.2 a = true := okS_hd (okS_tl ho) a rfl
  obtain ⟨k0, hk0, hw⟩ := Sm.at (E := E) (adr := adr) hn ha (by rw [hm]; show 20 < 25; omega)
  rw [cE_A hm (by decide) (by decide)] at hw
  exact va_iald hx hb hK hP k0 0 hw rfl hin hd (K p e s m args below meth c adr0 adr H locs ls CC hE hS hW (okS_I (okS_t2 ho)) hoL hl)
theorem g_zald {a : Ad} {N : Nat} {i : Int32} (hd : decode y.2.1 pc = .ok (.baload, 1)) (hp : pc + 1 = pc') (hm : mt a = (21, N)) (hin : vp_in i N) (K : G E y d mc ms Q h0 pc' L (vI (h.1 a i.toNatClampNeg) :: st) h cu su) : G E y d mc ms Q h0 pc L (vI i :: vR a :: st) h cu su := by
  subst hp
  intro p e s m args below meth c adr0 adr H locs ls CC hE hS hW ho hoL hl
  obtain ⟨hx, hb, hml, hr, hlk', hown, hnm, hts, hK, hN, hX, hbs, hok⟩ := id CC
  obtain ⟨⟨nl, hn, hP, hD⟩, hcl⟩ := id hS
  have ha : h.2.2 a = true := okS_hd (okS_tl ho) a rfl
  obtain ⟨k0, hk0, hw⟩ := Sm.at (E := E) (adr := adr) hn ha (by rw [hm]; show 21 < 25; omega)
  rw [cE_A hm (by decide) (by decide)] at hw
  exact va_zald hx hb hK hP k0 1 hw rfl hin hd (K p e s m args below meth c adr0 adr H locs ls CC hE hS hW (okS_I (okS_t2 ho)) hoL hl)
theorem g_bald {a : Ad} {N : Nat} {i : Int32} (hd : decode y.2.1 pc = .ok (.baload, 1)) (hp : pc + 1 = pc') (hm : mt a = (22, N)) (hin : vp_in i N) (K : G E y d mc ms Q h0 pc' L (vI (h.1 a i.toNatClampNeg) :: st) h cu su) : G E y d mc ms Q h0 pc L (vI i :: vR a :: st) h cu su := by
  subst hp
  intro p e s m args below meth c adr0 adr H locs ls CC hE hS hW ho hoL hl
  obtain ⟨hx, hb, hml, hr, hlk', hown, hnm, hts, hK, hN, hX, hbs, hok⟩ := id CC
  obtain ⟨⟨nl, hn, hP, hD⟩, hcl⟩ := id hS
  have ha : h.2.2 a = true := okS_hd (okS_tl ho) a rfl
  obtain ⟨k0, hk0, hw⟩ := Sm.at (E := E) (adr := adr) hn ha (by rw [hm]; show 22 < 25; omega)
  rw [cE_A hm (by decide) (by decide)] at hw
  exact va_bald hx hb hK hP k0 2 hw rfl hin hd (K p e s m args below meth c adr0 adr H locs ls CC hE hS hW (okS_I (okS_t2 ho)) hoL hl)
theorem g_iast {a : Ad} {N : Nat} {i x : Int32} (hd : decode y.2.1 pc = .ok (.iastore, 1)) (hp : pc + 1 = pc') (hm : mt a = (20, N)) (hin : vp_in i N) (K : G E y d mc ms Q h0 pc' L st (wI h a i.toNatClampNeg x) cu su) : G E y d mc ms Q h0 pc L (vI x :: vI i :: vR a :: st) h cu su := by
  subst hp
  intro p e s m args below meth c adr0 adr H locs ls CC hE hS hW ho hoL hl
  obtain ⟨hx, hb, hml, hr, hlk', hown, hnm, hts, hK, hN, hX, hbs, hok⟩ := id CC
  obtain ⟨⟨nl, hn, hP, hD⟩, hcl⟩ := id hS
  have ha : h.2.2 a = true := okS_hd (okS_t2 ho) a rfl
  obtain ⟨k0, hk0, hw⟩ := Sm.at (E := E) (adr := adr) hn ha (by rw [hm]; show 20 < 25; omega)
  rw [cE_A hm (by decide) (by decide)] at hw
  refine va_iast hx hb hK hP hD hW k0 0 hw rfl hin hd (fun H1 locs1 hP1 hD1 hS1 => ?_)
  have ee : cE E.2.2.2.1 adr (wI h a i.toNatClampNeg x) a = .inl (E.2.2.2.1 20, N, .inl (upd (h.1 a) i.toNatClampNeg x)) := by
    rw [cE_A hm (by decide) (by decide)]
    have e2 : (wI h a i.toNatClampNeg x).1 a = upd (h.1 a) i.toNatClampNeg x := if_pos rfl
    rw [e2]
  rw [← ee] at hP1 hD1
  exact K p e s m args below meth c adr0 adr H1 locs1 ls CC hE (Sm_wI hn hD hcl hk0 hP1 hD1) hS1 (okS_t3 ho) hoL hl
theorem g_zast {a : Ad} {N : Nat} {i x : Int32} (hd : decode y.2.1 pc = .ok (.bastore, 1)) (hp : pc + 1 = pc') (hm : mt a = (21, N)) (hin : vp_in i N) (K : G E y d mc ms Q h0 pc' L st (wI h a i.toNatClampNeg (vp_nar .boolean x)) cu su) : G E y d mc ms Q h0 pc L (vI x :: vI i :: vR a :: st) h cu su := by
  subst hp
  intro p e s m args below meth c adr0 adr H locs ls CC hE hS hW ho hoL hl
  obtain ⟨hx, hb, hml, hr, hlk', hown, hnm, hts, hK, hN, hX, hbs, hok⟩ := id CC
  obtain ⟨⟨nl, hn, hP, hD⟩, hcl⟩ := id hS
  have ha : h.2.2 a = true := okS_hd (okS_t2 ho) a rfl
  obtain ⟨k0, hk0, hw⟩ := Sm.at (E := E) (adr := adr) hn ha (by rw [hm]; show 21 < 25; omega)
  rw [cE_A hm (by decide) (by decide)] at hw
  refine va_zast hx hb hK hP hD hW k0 1 hw rfl hin hd (fun H1 locs1 hP1 hD1 hS1 => ?_)
  have ee : cE E.2.2.2.1 adr (wI h a i.toNatClampNeg (vp_nar .boolean x)) a = .inl (E.2.2.2.1 21, N, .inl (upd (h.1 a) i.toNatClampNeg (vp_nar .boolean x))) := by
    rw [cE_A hm (by decide) (by decide)]
    have e2 : (wI h a i.toNatClampNeg (vp_nar .boolean x)).1 a = upd (h.1 a) i.toNatClampNeg (vp_nar .boolean x) := if_pos rfl
    rw [e2]
  rw [← ee] at hP1 hD1
  exact K p e s m args below meth c adr0 adr H1 locs1 ls CC hE (Sm_wI hn hD hcl hk0 hP1 hD1) hS1 (okS_t3 ho) hoL hl
theorem g_bast {a : Ad} {N : Nat} {i x : Int32} (hd : decode y.2.1 pc = .ok (.bastore, 1)) (hp : pc + 1 = pc') (hm : mt a = (22, N)) (hin : vp_in i N) (K : G E y d mc ms Q h0 pc' L st (wI h a i.toNatClampNeg (vp_nar .byte x)) cu su) : G E y d mc ms Q h0 pc L (vI x :: vI i :: vR a :: st) h cu su := by
  subst hp
  intro p e s m args below meth c adr0 adr H locs ls CC hE hS hW ho hoL hl
  obtain ⟨hx, hb, hml, hr, hlk', hown, hnm, hts, hK, hN, hX, hbs, hok⟩ := id CC
  obtain ⟨⟨nl, hn, hP, hD⟩, hcl⟩ := id hS
  have ha : h.2.2 a = true := okS_hd (okS_t2 ho) a rfl
  obtain ⟨k0, hk0, hw⟩ := Sm.at (E := E) (adr := adr) hn ha (by rw [hm]; show 22 < 25; omega)
  rw [cE_A hm (by decide) (by decide)] at hw
  refine va_bast hx hb hK hP hD hW k0 2 hw rfl hin hd (fun H1 locs1 hP1 hD1 hS1 => ?_)
  have ee : cE E.2.2.2.1 adr (wI h a i.toNatClampNeg (vp_nar .byte x)) a = .inl (E.2.2.2.1 22, N, .inl (upd (h.1 a) i.toNatClampNeg (vp_nar .byte x))) := by
    rw [cE_A hm (by decide) (by decide)]
    have e2 : (wI h a i.toNatClampNeg (vp_nar .byte x)).1 a = upd (h.1 a) i.toNatClampNeg (vp_nar .byte x) := if_pos rfl
    rw [e2]
  rw [← ee] at hP1 hD1
  exact K p e s m args below meth c adr0 adr H1 locs1 ls CC hE (Sm_wI hn hD hcl hk0 hP1 hD1) hS1 (okS_t3 ho) hoL hl
theorem g_alen {a : Ad} {k N : Nat} {v : Int32} (hd : decode y.2.1 pc = .ok (.arraylength, 1)) (hp : pc + 1 = pc') (hm : mt a = (k, N)) (hk : 20 ≤ k ∧ k < 25) (hv : Int32.ofNat N = v) (K : G E y d mc ms Q h0 pc' L (vI v :: st) h cu su) : G E y d mc ms Q h0 pc L (vR a :: st) h cu su := by
  subst hp
  intro p e s m args below meth c adr0 adr H locs ls CC hE hS hW ho hoL hl
  obtain ⟨hx, hb, hml, hr, hlk', hown, hnm, hts, hK, hN, hX, hbs, hok⟩ := id CC
  obtain ⟨⟨nl, hn, hP, hD⟩, hcl⟩ := id hS
  have ha : h.2.2 a = true := okS_hd ho a rfl
  obtain ⟨k0, hk0, hw⟩ := Sm.at (E := E) (adr := adr) hn ha (by rw [hm]; exact hk.2)
  have k2 := K p e s m args below meth c adr0 adr H locs ls CC hE hS hW (okS_I (okS_tl ho)) hoL hl
  rcases Nat.lt_or_ge k 23 with q | q
  · rw [cE_A hm hk.1 q] at hw
    rcases (show k = 20 ∨ k = 21 ∨ k = 22 by omega) with rfl | rfl | rfl
    · exact va_alen hx hb hK hP k0 0 hw rfl hv hd k2
    · exact va_alen hx hb hK hP k0 1 hw rfl hv hd k2
    · exact va_alen hx hb hK hP k0 2 hw rfl hv hd k2
  · rw [cE_Q hm q] at hw
    rcases (show k = 23 ∨ k = 24 by omega) with rfl | rfl
    · exact va_alen hx hb hK hP k0 3 hw rfl hv hd k2
    · exact va_alen hx hb hK hP k0 4 hw rfl hv hd k2
theorem g_aald {a : Ad} {N : Nat} {i : Int32} {r : Option Ad} (hd : decode y.2.1 pc = .ok (.aaload, 1)) (hp : pc + 1 = pc') (hm : mt a = (23, N)) (hin : vp_in i N) (hrr : h.2.1 a i.toNatClampNeg = r) (K : G E y d mc ms Q h0 pc' L (vO r :: st) h cu su) : G E y d mc ms Q h0 pc L (vI i :: vR a :: st) h cu su := by
  subst hp
  intro p e s m args below meth c adr0 adr H locs ls CC hE hS hW ho hoL hl
  obtain ⟨hx, hb, hml, hr, hlk', hown, hnm, hts, hK, hN, hX, hbs, hok⟩ := id CC
  obtain ⟨⟨nl, hn, hP, hD⟩, hcl⟩ := id hS
  have ha : h.2.2 a = true := okS_hd (okS_tl ho) a rfl
  obtain ⟨k0, hk0, hw⟩ := Sm.at (E := E) (adr := adr) hn ha (by rw [hm]; show 23 < 25; omega)
  rw [cE_Q hm (by decide)] at hw
  have k2 := K p e s m args below meth c adr0 adr H locs ls CC hE hS hW (okS_cons (fun b q => by cases q; exact hcl a _ b ha hrr) (okS_t2 ho)) hoL hl
  refine va_aldq hx hb hK hP k0 3 hw rfl hin hd ?_
  rw [hrr, ← tv_O]
  exact k2
end GA
