/-- only the class's scratch changed -/
def Sc (h h' : Hp) : Prop := h'.2 = h.2 ∧ ∀ b : Ad, sc b.1 = false → h'.1 b = h.1 b
theorem Sc.rf (h : Hp) : Sc h h := ⟨rfl, fun _ _ => rfl⟩
theorem Sc.tr {a b c : Hp} (x : Sc a b) (y : Sc b c) : Sc a c := ⟨y.1.trans x.1, fun q z => (y.2 q z).trans (x.2 q z)⟩
theorem Sc.wI {h h' : Hp} {a : Ad} {j : Nat} {x : Int32} (k : Sc h h') (ha : sc a.1 = true) : Sc h (wI h' a j x) := ⟨k.1, fun b z => (wI_off h' a j x b (fun y => by rw [y, ha] at z; cases z)).trans (k.2 b z)⟩
theorem Sc.mo {h h' : Hp} (k : Sc h h') : mo h' = mo h := mo_same (fun b q => k.2 b (sc_kS q))
theorem Cp.sc {m : St} {h h' : Hp} (c : Cp m h) (k : Sc h h') (e : C13 h') : Cp m h' := c.same k.1 k.2 e
theorem mnd_comm (m : St) (t : Nat) : sm (fun s => (m 113 (6 * kd m t + s) - m 125 (6 * t + s)) * m 191 s) 6 = mndT m t := sm_congr (fun s _ => Int32.mul_comm _ _)
set_option maxRecDepth 4000 in
theorem lx_minToMend {E : En} (hok : EOK E) {h h0 : Hp} {m : St} (hc : Cp m h) (hw : Wf m) {t : Nat} (ht : t < nT m) {d : Nat} (hd : 0 ≤ d) {Q : Option V → Hp → Prop} (hQ : Q (some (vI (mndT m t))) h) : ∀ n s : Nat, s ≤ 6 → 6 - s = n → G E m_X8_minutesToMend d 0 0 Q h0 4 [some (vR (3, t)), some (vR (21, 0)), some (vI (sm (fun s => (m 113 (6 * kd m t + s) - m 125 (6 * t + s)) * m 191 s) s)), some (vI (nI s))] [] (h) 0 0 := by
  have hs := hc.s
  have hKb := hw.k.2
  have hTb := hw.t.2
  have hFb := hw.f.2
  have hRb := hw.r.2
  have hGb := hw.g.2
  have hAb := hw.a.2
  have hTlb := hw.tl.2
  have hNwb := hw.w.2
  have hkd := (hw.kd ht).2
  intro n
  induction n with
  | zero =>
    intro s h1 h2
    refine g_iload_n (pc' := 5) dX8_minutesToMend_4 rfl rfl ?_
    refine g_bipushN (n := 6) (pc' := 7) dX8_minutesToMend_5 rfl (by decide) ?_
    refine g_icmp_geN (tgt := 45) (pc' := 10) dX8_minutesToMend_7 rfl (by decide) (by omega) (by omega) (fun c7 => ?_) (fun c7 => ?_)
    ·
      refine g_iload_n (pc' := 46) dX8_minutesToMend_45 rfl rfl ?_
      refine g_iret dX8_minutesToMend_46 rfl (by decide) (by decide) ?_
      have e : s = 6 := by omega
      subst e
      rw [← mnd_comm] at hQ
      exact hQ
    · exact absurd c7 (by omega)
  | succ n ih =>
    intro s h1 h2
    refine g_iload_n (pc' := 5) dX8_minutesToMend_4 rfl rfl ?_
    refine g_bipushN (n := 6) (pc' := 7) dX8_minutesToMend_5 rfl (by decide) ?_
    refine g_icmp_geN (tgt := 45) (pc' := 10) dX8_minutesToMend_7 rfl (by decide) (by omega) (by omega) (fun c7 => ?_) (fun c7 => ?_)
    · exact absurd c7 (by omega)
    ·
      refine g_iload_n (pc' := 11) dX8_minutesToMend_10 rfl rfl ?_
      refine g_aload_n (pc' := 12) dX8_minutesToMend_11 rfl rfl ?_
      refine g_alen (pc' := 13) (v := nI 6) dX8_minutesToMend_12 rfl rfl (by decide) rfl ?_
      refine g_icmp_geN (tgt := 45) (pc' := 16) dX8_minutesToMend_13 rfl (by decide) (by omega) (by omega) (fun c13 => ?_) (fun c13 => ?_)
      · exact absurd c13 (by omega)
      ·
        refine g_iload_n (pc' := 17) dX8_minutesToMend_16 rfl rfl ?_
        refine g_aload_n (pc' := 18) dX8_minutesToMend_17 rfl rfl ?_
        refine g_getR (pc' := 21) (k := 1) (r := some (2, kd m t)) dX8_minutesToMend_18 rfl rfl ck_9 (by decide) fl_X8_15 rfl ((hc.c6.2.1 _ (by omega)).1) ?_
        refine g_getS (pc' := 24) (k := 6) (b := (24, kd m t)) dX8_minutesToMend_21 rfl rfl ck_3 (by decide) fl_X8_22 rfl hs rfl ?_
        refine g_iload_n (pc' := 25) dX8_minutesToMend_24 rfl rfl ?_
        refine g_ialdN (pc' := 26) (v := m 113 (6 * kd m t + s)) dX8_minutesToMend_25 rfl rfl (by decide) (by omega) ((hc.c5.2.1 _ hkd).2.1 s (by omega)) ?_
        refine g_aload_n (pc' := 27) dX8_minutesToMend_26 rfl rfl ?_
        refine g_getS (pc' := 30) (k := 3) (b := (26, t)) dX8_minutesToMend_27 rfl rfl ck_9 (by decide) fl_X8_33 rfl hs rfl ?_
        refine g_iload_n (pc' := 31) dX8_minutesToMend_30 rfl rfl ?_
        refine g_ialdN (pc' := 32) (v := m 125 (6 * t + s)) dX8_minutesToMend_31 rfl rfl (by decide) (by omega) ((hc.c6.2.1 t ht).2.2 s (by omega)) ?_
        refine g_isub (pc' := 33) dX8_minutesToMend_32 rfl ?_
        refine g_aload_n (pc' := 34) dX8_minutesToMend_33 rfl rfl ?_
        refine g_iload_n (pc' := 35) dX8_minutesToMend_34 rfl rfl ?_
        refine g_ialdN (pc' := 36) (v := m 191 s) dX8_minutesToMend_35 rfl rfl (by decide) (by omega) (hc.c3 s (by omega)) ?_
        refine g_imul (pc' := 37) dX8_minutesToMend_36 rfl ?_
        refine g_iadd (pc' := 38) dX8_minutesToMend_37 rfl ?_
        refine g_istore_n (pc' := 39) dX8_minutesToMend_38 rfl (by decide) rfl ?_
        try simp only [List.set]
        refine g_iincN (k := 1) (pc' := 42) dX8_minutesToMend_39 rfl rfl (by decide) rfl ?_
        try simp only [List.set]
        refine g_goto (tgt := 4) dX8_minutesToMend_42 (by decide) ?_
        exact ih (s + 1) (by omega) (by omega)
set_option maxRecDepth 4000 in
theorem cx_minToMend {E : En} (hok : EOK E) {h : Hp} {m : St} (hc : Cp m h) (hw : Wf m) {t : Nat} (ht : t < nT m) (hx : Wx m) : Call E m_X8_minutesToMend 0 0 0 [vR (3, t), vR (21, 0)] h (fun r0 h' => r0 = some (vI (nI (mnN m t))) ∧ h = h') := by
  have hs := hc.s
  have hKb := hw.k.2
  have hTb := hw.t.2
  have hFb := hw.f.2
  have hRb := hw.r.2
  have hGb := hw.g.2
  have hAb := hw.a.2
  have hTlb := hw.tl.2
  have hNwb := hw.w.2
  refine Call.enter hok (by decide) (Nat.le_of_ble_eq_true rfl) ?_
  show G E m_X8_minutesToMend 0 0 0 _ h 0 [some (vR (3, t)), some (vR (21, 0)), none, none] [] h 0 0
  refine g_iconst (v := 0) (pc' := 1) dX8_minutesToMend_0 rfl (by decide) ?_
  refine g_istore_n (pc' := 2) dX8_minutesToMend_1 rfl (by decide) rfl ?_
  try simp only [List.set]
  refine g_iconstN (n := 0) (pc' := 3) dX8_minutesToMend_2 rfl ?_
  refine g_istore_n (pc' := 4) dX8_minutesToMend_3 rfl (by decide) rfl ?_
  try simp only [List.set]
  rw [← (mnd_n hw hx ht).1]
  exact lx_minToMend hok hc hw ht (Nat.le_refl _) ⟨rfl, rfl⟩ _ 0 (Nat.zero_le _) rfl
def begH (h : Hp) (a : Int32) : Hp := wI (wI (wI (wI (wI h (11, 0) 4 (nI 0)) (11, 0) 5 a) (11, 0) 6 (nI 0)) (11, 0) 7 (nI 0)) (11, 0) 8 (-1)
def ofH (h : Hp) (n : Nat) (t mi wo : Int32) : Hp := wI (wI (wI (wI (wI h (55, 0) n t) (56, 0) n mi) (57, 0) n wo) (58, 0) (n + 1) (h.1 (58, 0) n + wo)) (11, 0) 4 (nI (n + 1))
set_option maxRecDepth 4000 in
theorem cx_wbegin {E : En} (hok : EOK E) {h : Hp} (a : Int32) : Call E m_X10_begin 0 0 0 [vR (11, 0), vI a] h (fun r h' => r = none ∧ begH h a = h') := by
  refine Call.enter hok (by decide) (Nat.le_of_ble_eq_true rfl) ?_
  show G E m_X10_begin 0 0 0 _ h 0 [some (vR (11, 0)), some (vI a)] [] h 0 0
  refine g_aload_n (pc' := 1) dX10_begin_0 rfl rfl ?_
  refine g_iconstN (n := 0) (pc' := 2) dX10_begin_1 rfl ?_
  refine g_putI (pc' := 5) (k := 4) dX10_begin_2 rfl rfl ck_11 (by decide) fl_X10_24 rfl rfl rfl rfl ?_
  refine g_aload_n (pc' := 6) dX10_begin_5 rfl rfl ?_
  refine g_iload_n (pc' := 7) dX10_begin_6 rfl rfl ?_
  refine g_putI (pc' := 10) (k := 5) dX10_begin_7 rfl rfl ck_11 (by decide) fl_X10_28 rfl rfl rfl rfl ?_
  refine g_aload_n (pc' := 11) dX10_begin_10 rfl rfl ?_
  refine g_iconstN (n := 0) (pc' := 12) dX10_begin_11 rfl ?_
  refine g_putI (pc' := 15) (k := 6) dX10_begin_12 rfl rfl ck_11 (by decide) fl_X10_31 rfl rfl rfl rfl ?_
  refine g_aload_n (pc' := 16) dX10_begin_15 rfl rfl ?_
  refine g_iconstN (n := 0) (pc' := 17) dX10_begin_16 rfl ?_
  refine g_putI (pc' := 20) (k := 7) dX10_begin_17 rfl rfl ck_11 (by decide) fl_X10_34 rfl rfl rfl rfl ?_
  refine g_aload_n (pc' := 21) dX10_begin_20 rfl rfl ?_
  refine g_iconst (v := -1) (pc' := 22) dX10_begin_21 rfl (by decide) ?_
  refine g_putI (pc' := 25) (k := 8) dX10_begin_22 rfl rfl ck_11 (by decide) fl_X10_37 rfl rfl rfl rfl ?_
  refine g_vret dX10_begin_25 rfl (by decide) (by decide) ?_
  exact ⟨rfl, rfl⟩
set_option maxRecDepth 4000 in
theorem cx_woffer {E : En} (hok : EOK E) {h : Hp} (hs : Shp h.2) {n : Nat} (hn : n < 16) (h4 : h.1 (11, 0) 4 = nI n) (t mi wo : Int32) : Call E m_X10_offer 0 0 0 [vR (11, 0), vI t, vI mi, vI wo] h (fun r h' => r = none ∧ ofH h n t mi wo = h') := by
  refine Call.enter hok (by decide) (Nat.le_of_ble_eq_true rfl) ?_
  show G E m_X10_offer 0 0 0 _ h 0 [some (vR (11, 0)), some (vI t), some (vI mi), some (vI wo)] [] h 0 0
  refine g_aload_n (pc' := 1) dX10_offer_0 rfl rfl ?_
  refine g_getIv (v := nI (n)) (pc' := 4) (k := 4) dX10_offer_1 rfl rfl ck_11 (by decide) fl_X10_24 rfl (h4) ?_
  refine g_bipushN (n := 16) (pc' := 6) dX10_offer_4 rfl (by decide) ?_
  refine g_icmp_ltN (tgt := 10) (pc' := 9) dX10_offer_6 rfl (by decide) (by omega) (by omega) (fun c6 => ?_) (fun c6 => ?_)
  ·
    refine g_aload_n (pc' := 11) dX10_offer_10 rfl rfl ?_
    refine g_getS (pc' := 14) (k := 0) (b := (55, 0)) dX10_offer_11 rfl rfl ck_11 (by decide) fl_X10_9 rfl hs rfl ?_
    refine g_aload_n (pc' := 15) dX10_offer_14 rfl rfl ?_
    refine g_getIv (v := nI (n)) (pc' := 18) (k := 4) dX10_offer_15 rfl rfl ck_11 (by decide) fl_X10_24 rfl (h4) ?_
    refine g_iload_n (pc' := 19) dX10_offer_18 rfl rfl ?_
    refine g_iastN (pc' := 20) dX10_offer_19 rfl rfl (by decide) (by omega) ?_
    refine g_aload_n (pc' := 21) dX10_offer_20 rfl rfl ?_
    refine g_getS (pc' := 24) (k := 1) (b := (56, 0)) dX10_offer_21 rfl rfl ck_11 (by decide) fl_X10_15 rfl hs rfl ?_
    refine g_aload_n (pc' := 25) dX10_offer_24 rfl rfl ?_
    refine g_getIv (v := nI (n)) (pc' := 28) (k := 4) dX10_offer_25 rfl rfl ck_11 (by decide) fl_X10_24 rfl (h4) ?_
    refine g_iload_n (pc' := 29) dX10_offer_28 rfl rfl ?_
    refine g_iastN (pc' := 30) dX10_offer_29 rfl rfl (by decide) (by omega) ?_
    refine g_aload_n (pc' := 31) dX10_offer_30 rfl rfl ?_
    refine g_getS (pc' := 34) (k := 2) (b := (57, 0)) dX10_offer_31 rfl rfl ck_11 (by decide) fl_X10_18 rfl hs rfl ?_
    refine g_aload_n (pc' := 35) dX10_offer_34 rfl rfl ?_
    refine g_getIv (v := nI (n)) (pc' := 38) (k := 4) dX10_offer_35 rfl rfl ck_11 (by decide) fl_X10_24 rfl (h4) ?_
    refine g_iload_n (pc' := 39) dX10_offer_38 rfl rfl ?_
    refine g_iastN (pc' := 40) dX10_offer_39 rfl rfl (by decide) (by omega) ?_
    refine g_aload_n (pc' := 41) dX10_offer_40 rfl rfl ?_
    refine g_getS (pc' := 44) (k := 3) (b := (58, 0)) dX10_offer_41 rfl rfl ck_11 (by decide) fl_X10_21 rfl hs rfl ?_
    refine g_aload_n (pc' := 45) dX10_offer_44 rfl rfl ?_
    refine g_getIv (v := nI (n)) (pc' := 48) (k := 4) dX10_offer_45 rfl rfl ck_11 (by decide) fl_X10_24 rfl (h4) ?_
    refine g_iconstN (n := 1) (pc' := 49) dX10_offer_48 rfl ?_
    refine g_iaddN (pc' := 50) dX10_offer_49 rfl ?_
    refine g_aload_n (pc' := 51) dX10_offer_50 rfl rfl ?_
    refine g_getS (pc' := 54) (k := 3) (b := (58, 0)) dX10_offer_51 rfl rfl ck_11 (by decide) fl_X10_21 rfl hs rfl ?_
    refine g_aload_n (pc' := 55) dX10_offer_54 rfl rfl ?_
    refine g_getIv (v := nI (n)) (pc' := 58) (k := 4) dX10_offer_55 rfl rfl ck_11 (by decide) fl_X10_24 rfl (h4) ?_
    refine g_ialdN (pc' := 59) (v := h.1 (58, 0) n) dX10_offer_58 rfl rfl (by decide) (by omega) (rfl) ?_
    refine g_iload_n (pc' := 60) dX10_offer_59 rfl rfl ?_
    refine g_iadd (pc' := 61) dX10_offer_60 rfl ?_
    refine g_iastN (pc' := 62) dX10_offer_61 rfl rfl (by decide) (by omega) ?_
    refine g_aload_n (pc' := 63) dX10_offer_62 rfl rfl ?_
    refine g_dup (pc' := 64) dX10_offer_63 rfl rfl ?_
    refine g_getIv (v := nI (n)) (pc' := 67) (k := 4) dX10_offer_64 rfl rfl ck_11 (by decide) fl_X10_24 rfl (h4) ?_
    refine g_iconstN (n := 1) (pc' := 68) dX10_offer_67 rfl ?_
    refine g_iaddN (pc' := 69) dX10_offer_68 rfl ?_
    refine g_putI (pc' := 72) (k := 4) dX10_offer_69 rfl rfl ck_11 (by decide) fl_X10_24 rfl rfl rfl rfl ?_
    refine g_vret dX10_offer_72 rfl (by decide) (by decide) ?_
    exact ⟨rfl, rfl⟩
  · exact absurd hn c6
theorem WS_no {m : St} {A t : Nat} {h : Hp} (w : WS m A t h) (q : ¬ cM m t) : WS m A (t + 1) h := by
  obtain ⟨a1, a2, a3, a4⟩ := w
  have e : cnt (cM m) (t + 1) = cnt (cM m) t := by rw [cnt_f q, Nat.add_zero]
  refine ⟨by rw [e]; exact a1, a2, fun u hu c => a3 u (Classical.byContradiction fun z => q (by rw [show t = u by omega]; exact c)) c, fun u hu => ?_⟩
  by_cases z : u = t + 1
  · rw [z, e, a4 t (Nat.le_refl _)]
    unfold kM
    rw [smN_s, cif_f q, Nat.add_zero]
  · exact a4 u (by omega)
theorem cnt_lt {p : Nat → Prop} {u t : Nat} (h : u < t) (q : p u) : cnt p u < cnt p t := by
  have a := cnt_up (p := p) (n := u + 1) (N := t) h
  rw [cnt_t q] at a
  omega
theorem WS_of {m : St} {A t : Nat} {h : Hp} (w : WS m A t h) (q : cM m t) : WS m A (t + 1) (ofH h (cnt (cM m) t) (nI t) (nI (mnN m t)) (nI (wM m t))) := by
  obtain ⟨a1, a2, a3, a4⟩ := w
  have e : cnt (cM m) (t + 1) = cnt (cM m) t + 1 := cnt_t q
  have h55 : ∀ j, (ofH h (cnt (cM m) t) (nI t) (nI (mnN m t)) (nI (wM m t))).1 (55, 0) j = if j = cnt (cM m) t then nI t else h.1 (55, 0) j := fun j => by simp [ofH, wI_at]
  have h56 : ∀ j, (ofH h (cnt (cM m) t) (nI t) (nI (mnN m t)) (nI (wM m t))).1 (56, 0) j = if j = cnt (cM m) t then nI (mnN m t) else h.1 (56, 0) j := fun j => by simp [ofH, wI_at]
  have h57 : ∀ j, (ofH h (cnt (cM m) t) (nI t) (nI (mnN m t)) (nI (wM m t))).1 (57, 0) j = if j = cnt (cM m) t then nI (wM m t) else h.1 (57, 0) j := fun j => by simp [ofH, wI_at]
  have h58 : ∀ j, (ofH h (cnt (cM m) t) (nI t) (nI (mnN m t)) (nI (wM m t))).1 (58, 0) j = if j = cnt (cM m) t + 1 then h.1 (58, 0) (cnt (cM m) t) + nI (wM m t) else h.1 (58, 0) j := fun j => by simp [ofH, wI_at]
  refine ⟨?_, ?_, fun u hu c => ?_, fun u hu => ?_⟩
  · rw [e]; simp [ofH, wI_at]
  · simp [ofH, wI_at]; exact a2
  · rw [h55, h56, h57]
    by_cases z : u = t
    · subst z
      simp
    · have y := cnt_lt (p := cM m) (show u < t by omega) c
      rw [if_neg (by omega), if_neg (by omega), if_neg (by omega)]
      exact a3 u (by omega) c
  · rw [h58]
    by_cases z : u = t + 1
    · rw [z, e, if_pos rfl, a4 t (Nat.le_refl _), nI_add]
      unfold kM
      rw [smN_s, cif_t q]
    · have y := cnt_up (p := cM m) (show u ≤ t by omega)
      rw [if_neg (by omega)]
      exact a4 u (by omega)
theorem Sc_of {h h' : Hp} (k : Sc h h') (n : Nat) (t mi wo : Int32) : Sc h (ofH h' n t mi wo) := ((((k.wI rfl).wI rfl).wI rfl).wI rfl).wI rfl
theorem C13_of {h : Hp} (k : C13 h) (n : Nat) (t mi wo : Int32) : C13 (ofH h n t mi wo) := by
  unfold C13 at *
  have e : (ofH h n t mi wo).1 (58, 0) 0 = h.1 (58, 0) 0 := by simp [ofH, wI_at]
  rw [e]
  exact k
theorem C13_wb {h h' : Hp} (k : C13 h) (w : WB h h') : C13 h' := by
  unfold C13 at *
  rw [w.1, w.2.1 (46, 0) (by decide), w.2.1 (47, 0) (by decide), w.2.1 (48, 0) (by decide), w.2.1 (58, 0) (by decide)]
  exact k
theorem WB.sc {h h' : Hp} (w : WB h h') : Sc h h' := ⟨w.1, fun b z => w.2.1 b (fun y => by rw [y] at z; cases z)⟩
set_option maxRecDepth 4000 in
theorem cx_wsearch {E : En} (hok : EOK E) {h : Hp} (hs : Shp h.2) {m : St} (hw : Wf m) (hx : Wx m) {A : Nat} (hA6 : A ≤ 6000) (hws : WS m A (nT m) h) (h8 : h.1 (11, 0) 8 = -1) : Call E m_X10_search 18 0 0 [vR (11, 0)] h (fun r h' => r = none ∧ WB h h' ∧ encN (mdF m A (p2 (nT m))) h') := by
  have hTb := hw.t.2
  have hcT := cnt_le (cM m) (nT m)
  have q := tb_all hok hw hx hA6 (nT m) (Nat.le_refl _) 0 0 h (0, 0, 0) hs rfl (by omega) (fun t _ z => by rw [Nat.zero_testBit] at z; cases z) hws ⟨p2_pos _, Nat.zero_le _, Nat.zero_le _⟩ (Or.inr ⟨rfl, rfl, h8⟩)
  rw [tX_0, cX_0] at q
  refine Call.enter hok (by decide) (Nat.le_of_ble_eq_true rfl) ?_
  show G E m_X10_search 18 0 0 _ h 0 [some (vR (11, 0))] [] h 0 0
  refine g_aload_n (pc' := 1) dX10_search_0 rfl rfl ?_
  refine g_aload_n (pc' := 2) dX10_search_1 rfl rfl ?_
  refine g_getIv (v := nI (cnt (cM m) (nT m))) (pc' := 5) (k := 4) dX10_search_2 rfl rfl ck_11 (by decide) fl_X10_24 rfl (hws.1) ?_
  refine g_iconstN (n := 0) (pc' := 6) dX10_search_5 rfl ?_
  refine g_iconstN (n := 0) (pc' := 7) dX10_search_6 rfl ?_
  refine g_iconstN (n := 0) (pc' := 8) dX10_search_7 rfl ?_
  refine g_invV (pc' := 11) (q) dX10_search_8 rfl rfl ck_11 rfl ml_X10_40 im_X10_tryBelow sl_X10_tryBelow in_X10 co_X10_tryBelow pd_X10_tryBelow rfl (by omega) (by decide) ⟨by decide, by decide⟩ (Nat.le_of_ble_eq_true rfl) ?_
  rintro _ h1 ⟨rfl, wb1, en1⟩ -
  refine g_vret dX10_search_11 rfl (by decide) (by decide) ?_
  exact ⟨rfl, wb1, en1⟩
set_option maxRecDepth 4000 in
theorem lx_mending {E : En} (hok : EOK E) {h h0 : Hp} {m : St} (hc0 : Cp m h) (hw : Wf m) (hx : Wx m) {A : Nat} (hA6 : A ≤ 6000) (x : Int32) {d : Nat} (hd : 19 ≤ d) {Q : Option V → Hp → Prop} (hQ : ∀ h1, Sc h h1 → C13 h1 → Q (some (vI (mdA m A x))) h1) : ∀ n t (hh : Hp), t ≤ nT m → nT m - t = n → (Sc h hh ∧ C13 hh ∧ WS m A t hh ∧ hh.1 (11, 0) 8 = -1) → G E m_X11_mending d 0 0 Q h0 32 [some (vR TH), some (vI (nI A)), some (vI x), some (vI (nI t)), none] [] hh 0 0 := by
  have hKb := hw.k.2
  have hTb := hw.t.2
  have hFb := hw.f.2
  intro n
  induction n with
  | zero =>
    intro t hh h1 h2 hi
    have hc : Cp m hh := hc0.sc hi.1 hi.2.1
    have hs := hc.s
    have hcT := cnt_le (cM m) t
    refine g_iload_n (pc' := 33) dX11_mending_32 rfl rfl ?_
    refine g_aload_n (pc' := 34) dX11_mending_33 rfl rfl ?_
    refine g_getS (pc' := 37) (k := 11) (b := (13, 1)) dX11_mending_34 rfl rfl ck_12 (by decide) fl_X11_35 rfl hs rfl ?_
    refine g_invV (pc' := 40) (ls_size hok hc.c6.1) dX11_mending_37 rfl rfl ck_0 rfl ml_X11_103 im_Jx4a65c_size_8abf5 sl_Jx4a65c_size_8abf5 in_Jx4a65c co_Jx4a65c_size_8abf5 pd_Jx4a65c_size_8abf5 rfl (by omega) (by decide) ⟨by decide, by decide⟩ (Nat.le_of_ble_eq_true rfl) ?_
    rintro _ _ ⟨rfl, rfl⟩ -
    refine g_icmp_geN (tgt := 106) (pc' := 43) dX11_mending_40 rfl (by decide) (by omega) (by omega) (fun c40 => ?_) (fun c40 => ?_)
    ·
      have e : t = nT m := by omega
      subst e
      have hws := hi.2.2.1
      have hi8 := hi.2.2.2
      refine g_aload_n (pc' := 107) dX11_mending_106 rfl rfl ?_
      refine g_getS (pc' := 110) (k := 18) (b := (11, 0)) dX11_mending_107 rfl rfl ck_12 (by decide) fl_X11_84 rfl hs rfl ?_
      refine g_invV (pc' := 113) (cx_wsearch hok hs hw hx hA6 hws hi8) dX11_mending_110 rfl rfl ck_11 rfl ml_X11_403 im_X10_search sl_X10_search in_X10 co_X10_search pd_X10_search rfl (by omega) (by decide) ⟨by decide, by decide⟩ (Nat.le_of_ble_eq_true rfl) ?_
      rintro _ h1 ⟨rfl, wb1, en1⟩ -
      have hc1 : Cp m h1 := hc.sc wb1.sc (C13_wb hc.c13 wb1)
      have hs := hc1.s
      refine g_iload_n (pc' := 114) dX11_mending_113 rfl rfl ?_
      refine g_if_ne (tgt := 125) (pc' := 117) dX11_mending_114 rfl (by decide) (fun c114 => ?_) (fun c114 => ?_)
      ·
        refine g_iload_n (pc' := 126) dX11_mending_125 rfl rfl ?_
        refine g_iconstN (n := 1) (pc' := 127) dX11_mending_126 rfl ?_
        refine g_icmp_ne (tgt := 140) (pc' := 130) dX11_mending_127 rfl (by decide) (fun c127 => ?_) (fun c127 => ?_)
        ·
          refine g_aload_n (pc' := 141) dX11_mending_140 rfl rfl ?_
          refine g_getS (pc' := 144) (k := 18) (b := (11, 0)) dX11_mending_141 rfl rfl ck_12 (by decide) fl_X11_84 rfl hs rfl ?_
          refine g_getIv (v := nI (mdF m A (p2 (nT m))).2.1) (pc' := 147) (k := 8) dX11_mending_144 rfl rfl ck_11 (by decide) fl_X11_410 rfl (en1.2.2) ?_
          refine g_iret dX11_mending_147 rfl (by decide) (by decide) ?_
          have qq := hQ h1 (hi.1.tr wb1.sc) hc1.c13
          rw [show mdA m A x = _ from (cif_f c114).trans (cif_f c127)] at qq
          exact qq
        ·
          refine g_aload_n (pc' := 131) dX11_mending_130 rfl rfl ?_
          refine g_getS (pc' := 134) (k := 18) (b := (11, 0)) dX11_mending_131 rfl rfl ck_12 (by decide) fl_X11_84 rfl hs rfl ?_
          refine g_getIv (v := nI (mdF m A (p2 (nT m))).2.2) (pc' := 137) (k := 7) dX11_mending_134 rfl rfl ck_11 (by decide) fl_X11_407 rfl (en1.2.1) ?_
          refine g_goto (tgt := 147) dX11_mending_137 (by decide) ?_
          refine g_iret dX11_mending_147 rfl (by decide) (by decide) ?_
          have qq := hQ h1 (hi.1.tr wb1.sc) hc1.c13
          rw [show mdA m A x = _ from (cif_f c114).trans (cif_t c127)] at qq
          exact qq
      ·
        refine g_aload_n (pc' := 118) dX11_mending_117 rfl rfl ?_
        refine g_getS (pc' := 121) (k := 18) (b := (11, 0)) dX11_mending_118 rfl rfl ck_12 (by decide) fl_X11_84 rfl hs rfl ?_
        refine g_getIv (v := nI (mdF m A (p2 (nT m))).1) (pc' := 124) (k := 6) dX11_mending_121 rfl rfl ck_11 (by decide) fl_X11_404 rfl (en1.1) ?_
        refine g_iret dX11_mending_124 rfl (by decide) (by decide) ?_
        have qq := hQ h1 (hi.1.tr wb1.sc) hc1.c13
        rw [show mdA m A x = _ from cif_t c114] at qq
        exact qq
    · exact absurd c40 (by omega)
  | succ n ih =>
    intro t hh h1 h2 hi
    have hc : Cp m hh := hc0.sc hi.1 hi.2.1
    have hs := hc.s
    have hcT := cnt_le (cM m) t
    refine g_iload_n (pc' := 33) dX11_mending_32 rfl rfl ?_
    refine g_aload_n (pc' := 34) dX11_mending_33 rfl rfl ?_
    refine g_getS (pc' := 37) (k := 11) (b := (13, 1)) dX11_mending_34 rfl rfl ck_12 (by decide) fl_X11_35 rfl hs rfl ?_
    refine g_invV (pc' := 40) (ls_size hok hc.c6.1) dX11_mending_37 rfl rfl ck_0 rfl ml_X11_103 im_Jx4a65c_size_8abf5 sl_Jx4a65c_size_8abf5 in_Jx4a65c co_Jx4a65c_size_8abf5 pd_Jx4a65c_size_8abf5 rfl (by omega) (by decide) ⟨by decide, by decide⟩ (Nat.le_of_ble_eq_true rfl) ?_
    rintro _ _ ⟨rfl, rfl⟩ -
    refine g_icmp_geN (tgt := 106) (pc' := 43) dX11_mending_40 rfl (by decide) (by omega) (by omega) (fun c40 => ?_) (fun c40 => ?_)
    · exact absurd c40 (by omega)
    ·
      refine g_aload_n (pc' := 44) dX11_mending_43 rfl rfl ?_
      refine g_getS (pc' := 47) (k := 11) (b := (13, 1)) dX11_mending_44 rfl rfl ck_12 (by decide) fl_X11_35 rfl hs rfl ?_
      refine g_iload_n (pc' := 48) dX11_mending_47 rfl rfl ?_
      refine g_invV (pc' := 51) (ls_get hok hc.c6.1 (j := t) (by omega) (by omega)) dX11_mending_48 rfl rfl ck_0 rfl ml_X11_324 im_Jx4a65c_get_915e3 sl_Jx4a65c_get_915e3 in_Jx4a65c co_Jx4a65c_get_915e3 pd_Jx4a65c_get_915e3 rfl (by omega) (by decide) ⟨by decide, by decide⟩ (Nat.le_of_ble_eq_true rfl) ?_
      rintro _ _ ⟨rfl, rfl⟩ -
      refine g_cast (pc' := 54) dX11_mending_51 rfl rfl ck_9 cl_X11_133 ?_
      refine g_astore (pc' := 56) dX11_mending_54 rfl (by decide) rfl ?_
      try simp only [List.set]
      refine g_aload (pc' := 58) dX11_mending_56 rfl rfl ?_
      refine g_getIv (v := m 118 (t)) (pc' := 61) (k := 7) dX11_mending_58 rfl rfl ck_9 (by decide) fl_X11_264 rfl (hc.t7 (t := t) (by omega)) ?_
      refine g_if_ne (tgt := 100) (pc' := 64) dX11_mending_61 rfl (by decide) (fun c61 => ?_) (fun c61 => ?_)
      ·
        refine g_iincN (k := 1) (pc' := 103) dX11_mending_100 rfl rfl (by decide) rfl ?_
        try simp only [List.set]
        refine g_goto (tgt := 32) dX11_mending_103 (by decide) ?_
        refine G.drop 4 ?_
        simp only [List.set]
        exact ih (t + 1) hh (by omega) (by omega) ⟨hi.1, hi.2.1, WS_no hi.2.2.1 (fun z => c61 z.1), hi.2.2.2⟩
      ·
        refine g_aload (pc' := 66) dX11_mending_64 rfl rfl ?_
        refine g_invV (pc' := 69) (cx_lacking hok hc hw (t := t) (by omega)) dX11_mending_66 rfl rfl ck_9 rfl ml_X11_265 im_X8_lacking sl_X8_lacking in_X8 co_X8_lacking pd_X8_lacking rfl (by omega) (by decide) ⟨by decide, by decide⟩ (Nat.le_of_ble_eq_true rfl) ?_
        rintro _ _ ⟨rfl, rfl⟩ -
        rw [(lck_n hw hx (show t < nT m by omega)).1]
        have hlk66 := (lck_n hw hx (show t < nT m by omega)).2
        refine g_if_leN (tgt := 100) (pc' := 72) dX11_mending_69 rfl (by decide) (by omega) (fun c69 => ?_) (fun c69 => ?_)
        ·
          refine g_iincN (k := 1) (pc' := 103) dX11_mending_100 rfl rfl (by decide) rfl ?_
          try simp only [List.set]
          refine g_goto (tgt := 32) dX11_mending_103 (by decide) ?_
          refine G.drop 4 ?_
          simp only [List.set]
          exact ih (t + 1) hh (by omega) (by omega) ⟨hi.1, hi.2.1, WS_no hi.2.2.1 (fun z => (lck_pos hw hx (by omega)).mp z.2 (by rw [(lck_n hw hx (show t < nT m by omega)).1, c69]; rfl)), hi.2.2.2⟩
        ·
          have hkt := (hw.kd (t := t) (by omega)).2
          have hwb : wfr m (kd m t) ≤ nF m := cnt_le _ _
          refine g_aload_n (pc' := 73) dX11_mending_72 rfl rfl ?_
          refine g_getS (pc' := 76) (k := 18) (b := (11, 0)) dX11_mending_73 rfl rfl ck_12 (by decide) fl_X11_84 rfl hs rfl ?_
          refine g_iload_n (pc' := 77) dX11_mending_76 rfl rfl ?_
          refine g_aload (pc' := 79) dX11_mending_77 rfl rfl ?_
          refine g_aload_n (pc' := 80) dX11_mending_79 rfl rfl ?_
          refine g_getS (pc' := 83) (k := 7) (b := (21, 0)) dX11_mending_80 rfl rfl ck_12 (by decide) fl_X11_13 rfl hs rfl ?_
          refine g_invV (pc' := 86) (cx_minToMend hok hc hw (t := t) (by omega) hx) dX11_mending_83 rfl rfl ck_9 rfl ml_X11_397 im_X8_minutesToMend sl_X8_minutesToMend in_X8 co_X8_minutesToMend pd_X8_minutesToMend rfl (by omega) (by decide) ⟨by decide, by decide⟩ (Nat.le_of_ble_eq_true rfl) ?_
          rintro _ _ ⟨rfl, rfl⟩ -
          refine g_aload_n (pc' := 87) dX11_mending_86 rfl rfl ?_
          refine g_aload (pc' := 89) dX11_mending_87 rfl rfl ?_
          refine g_getR (pc' := 92) (k := 1) (r := some (2, kd m t)) dX11_mending_89 rfl rfl ck_9 (by decide) fl_X11_203 rfl ((hc.c6.2.1 _ (by omega)).1) ?_
          refine g_invV (pc' := 95) (cx_waitingFor hok hc hw (k := kd m t) (by omega)) dX11_mending_92 rfl rfl ck_12 rfl ml_X11_347 im_X11_waitingFor sl_X11_waitingFor in_X11 co_X11_waitingFor pd_X11_waitingFor rfl (by omega) (by decide) ⟨by decide, by decide⟩ (Nat.le_of_ble_eq_true rfl) ?_
          rintro _ _ ⟨rfl, rfl⟩ -
          refine g_iconstN (n := 1) (pc' := 96) dX11_mending_95 rfl ?_
          refine g_iaddN (pc' := 97) dX11_mending_96 rfl ?_
          refine g_invV (pc' := 100) (cx_woffer hok hs (n := cnt (cM m) t) (by omega) hi.2.2.1.1 _ _ _) dX11_mending_97 rfl rfl ck_11 rfl ml_X11_401 im_X10_offer sl_X10_offer in_X10 co_X10_offer pd_X10_offer rfl (by omega) (by decide) ⟨by decide, by decide⟩ (Nat.le_of_ble_eq_true rfl) ?_
          rintro _ _ ⟨rfl, rfl⟩ -
          refine g_iincN (k := 1) (pc' := 103) dX11_mending_100 rfl rfl (by decide) rfl ?_
          try simp only [List.set]
          refine g_goto (tgt := 32) dX11_mending_103 (by decide) ?_
          refine G.drop 4 ?_
          simp only [List.set]
          have hcm : cM m t := ⟨c61, (lck_pos hw hx (by omega)).mpr (fun z => c69 ((nI_eq0 (by omega)).mp ((lck_n hw hx (show t < nT m by omega)).1.symm.trans z)))⟩
          refine ih (t + 1) _ (by omega) (by omega) ⟨Sc_of hi.1 _ _ _ _, C13_of hi.2.1 _ _ _ _, WS_of hi.2.2.1 hcm, ?_⟩
          simp [ofH, wI_at]
          exact hi.2.2.2
set_option maxRecDepth 4000 in
theorem cx_mending {E : En} (hok : EOK E) {h : Hp} {m : St} (hc : Cp m h) (hw : Wf m) (hx : Wx m) (a0 : Int32) (x : Int32) : Call E m_X11_mending 19 0 0 [vR TH, vI a0, vI x] h (fun r h' => r = some (vI (sMending m a0 x).1) ∧ Cp (sMending m a0 x).2 h' ∧ mo h' = mo h) := by
  have hs := hc.s
  have hKb := hw.k.2
  have hTb := hw.t.2
  have hFb := hw.f.2
  have hRb := hw.r.2
  have hGb := hw.g.2
  have hAb := hw.a.2
  have hTlb := hw.tl.2
  have hNwb := hw.w.2
  refine Call.enter hok (by decide) (Nat.le_of_ble_eq_true rfl) ?_
  show G E m_X11_mending 19 0 0 _ h 0 [some (vR TH), some (vI a0), some (vI x), none, none] [] h 0 0
  refine g_iload_n (pc' := 1) dX11_mending_0 rfl rfl ?_
  refine g_iconstN (n := 0) (pc' := 2) dX11_mending_1 rfl ?_
  refine g_sipushN (n := 6000) (pc' := 5) dX11_mending_2 rfl (by decide) ?_
  refine g_invS (pc' := 8) (cx_within hok _ _ _) dX11_mending_5 rfl ml_X11_99 st_X11_within in_X11 co_X11_within pd_X11_within rfl (by omega) (by decide) ⟨by decide, by decide⟩ (Nat.le_of_ble_eq_true rfl) ?_
  rintro _ _ ⟨rfl, rfl⟩ -
  refine g_ifB_eq (tgt := 20) (pc' := 11) dX11_mending_8 rfl (by decide) (fun c8 => ?_) (fun c8 => ?_)
  ·
    refine g_iconst (v := -1) (pc' := 21) dX11_mending_20 rfl (by decide) ?_
    refine g_iret dX11_mending_21 rfl (by decide) (by decide) ?_
    have e : sMending m a0 x = (-1, m) := cif_f (fun z => c8 z.1)
    rw [e]
    exact ⟨rfl, hc, rfl⟩
  ·
    obtain ⟨A, hA6, rfl⟩ := rng (n := 6000) rfl (by decide) c8
    refine g_iload_n (pc' := 12) dX11_mending_11 rfl rfl ?_
    refine g_iconstN (n := 0) (pc' := 13) dX11_mending_12 rfl ?_
    refine g_iconstN (n := 2) (pc' := 14) dX11_mending_13 rfl ?_
    refine g_invS (pc' := 17) (cx_within hok _ _ _) dX11_mending_14 rfl ml_X11_99 st_X11_within in_X11 co_X11_within pd_X11_within rfl (by omega) (by decide) ⟨by decide, by decide⟩ (Nat.le_of_ble_eq_true rfl) ?_
    rintro _ _ ⟨rfl, rfl⟩ -
    refine g_ifB_ne (tgt := 22) (pc' := 20) dX11_mending_17 rfl (by decide) (fun c17 => ?_) (fun c17 => ?_)
    ·
      refine g_aload_n (pc' := 23) dX11_mending_22 rfl rfl ?_
      refine g_getS (pc' := 26) (k := 18) (b := (11, 0)) dX11_mending_23 rfl rfl ck_12 (by decide) fl_X11_84 rfl hs rfl ?_
      refine g_iload_n (pc' := 27) dX11_mending_26 rfl rfl ?_
      refine g_invV (pc' := 30) (cx_wbegin hok _) dX11_mending_27 rfl rfl ck_11 rfl ml_X11_396 im_X10_begin sl_X10_begin in_X10 co_X10_begin pd_X10_begin rfl (by omega) (by decide) ⟨by decide, by decide⟩ (Nat.le_of_ble_eq_true rfl) ?_
      rintro _ _ ⟨rfl, rfl⟩ -
      refine g_iconstN (n := 0) (pc' := 31) dX11_mending_30 rfl ?_
      refine g_istore_n (pc' := 32) dX11_mending_31 rfl (by decide) rfl ?_
      try simp only [List.set]
      have e : sMending m (nI A) x = (mdA m A x, m) := by unfold sMending; simp only [nI_clamp (show A < 2 ^ 31 by omega)]; exact cif_t ⟨c8, c17⟩
      rw [e]
      refine lx_mending hok hc hw hx hA6 x (Nat.le_refl _) (fun h1 s1 k13 => ⟨rfl, hc.sc s1 k13, s1.mo⟩) _ 0 _ (Nat.zero_le _) rfl ⟨?_, ?_, ?_, ?_⟩
      · exact (((((Sc.rf h).wI rfl).wI rfl).wI rfl).wI rfl).wI rfl
      · exact hc.c13
      · refine ⟨?_, ?_, fun t ht => absurd ht (Nat.not_lt_zero t), fun t ht => ?_⟩
        · simp [begH, wI_at]; rfl
        · simp [begH, wI_at]
        · rw [show t = 0 by omega]
          exact hc.c13.2.2.2.1
      · simp [begH, wI_at]
    ·
      refine g_iconst (v := -1) (pc' := 21) dX11_mending_20 rfl (by decide) ?_
      refine g_iret dX11_mending_21 rfl (by decide) (by decide) ?_
      have e : sMending m (nI A) x = (-1, m) := cif_f (fun z => c17 z.2)
      rw [e]
      exact ⟨rfl, hc, rfl⟩
