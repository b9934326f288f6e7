/-! the class's reader of rules: its state, and its small methods -/
def TC (b : Nat → Nat) (n i : Nat) (h : Hp) : Prop := Shp h.2 ∧ h.2.1 (6, i) 6 = some (20, 0) ∧ h.1 (6, i) 7 = nI n ∧ (∀ j, j < n → h.1 (20, 0) j = nI (b j)) ∧ Al h
def KT (i s : Nat) (h h' : Hp) : Prop := h'.2 = h.2 ∧ (∀ a : Ad, a ≠ (6, i) → a ≠ (35, i) → a ≠ (36, i) → h'.1 a = h.1 a) ∧ (∀ j, j < s → h'.1 (35, i) j = h.1 (35, i) j ∧ h'.1 (36, i) j = h.1 (36, i) j) ∧ ∀ k, k ≠ 8 → k ≠ 9 → k ≠ 11 → k ≠ 12 → h'.1 (6, i) k = h.1 (6, i) k
theorem KT.rf (i s : Nat) (h : Hp) : KT i s h h := ⟨rfl, fun _ _ _ _ => rfl, fun _ _ => ⟨rfl, rfl⟩, fun _ _ _ _ _ => rfl⟩
theorem KT.tr {i s s1 : Nat} {h h1 h2 : Hp} (x : KT i s h h1) (y : KT i s1 h1 h2) (hs : s ≤ s1) : KT i s h h2 :=
  ⟨y.1.trans x.1, fun a q1 q2 q3 => (y.2.1 a q1 q2 q3).trans (x.2.1 a q1 q2 q3), fun j hj => ⟨(y.2.2.1 j (by omega)).1.trans (x.2.2.1 j hj).1, (y.2.2.1 j (by omega)).2.trans (x.2.2.1 j hj).2⟩, fun k q1 q2 q3 q4 => (y.2.2.2 k q1 q2 q3 q4).trans (x.2.2.2 k q1 q2 q3 q4)⟩
theorem ad2_ne {s t i j : Nat} (h : s ≠ t) : ((s, i) : Ad) ≠ (t, j) := fun z => h (congrArg Prod.fst z)
theorem TC.k {b : Nat → Nat} {n i s : Nat} {h h' : Hp} (t : TC b n i h) (k : KT i s h h') : TC b n i h' :=
  ⟨by rw [k.1]; exact t.1, by rw [k.1]; exact t.2.1, (k.2.2.2 7 (by decide) (by decide) (by decide) (by decide)).trans t.2.2.1, fun j hj => by rw [k.2.1 (20, 0) (ad2_ne (by decide)) (ad2_ne (by decide)) (ad2_ne (by decide))]; exact t.2.2.2.1 j hj, by unfold Al; rw [k.1]; exact t.2.2.2.2⟩
/-- a field of the text that changes is written -/
theorem KT.f {i s j : Nat} {x : Int32} {h h1 : Hp} (k : KT i s h h1) (hj : j = 8 ∨ j = 9 ∨ j = 11 ∨ j = 12) : KT i s h (wI h1 (6, i) j x) :=
  ⟨k.1, fun a q1 q2 q3 => (wI_off _ _ _ _ a q1).trans (k.2.1 a q1 q2 q3), fun q hq => k.2.2.1 q hq, fun q q1 q2 q3 q4 => (wI_f (by omega)).trans (k.2.2.2 q q1 q2 q3 q4)⟩
theorem KT.c {i s j : Nat} {x : Int32} {h h1 : Hp} (k : KT i s h h1) (hj : s ≤ j) : KT i s h (wI h1 (35, i) j x) :=
  ⟨k.1, fun a q1 q2 q3 => (wI_off _ _ _ _ a q2).trans (k.2.1 a q1 q2 q3), fun q hq => ⟨(wI_f (by omega)).trans (k.2.2.1 q hq).1, (k.2.2.1 q hq).2⟩, fun q q1 q2 q3 q4 => k.2.2.2 q q1 q2 q3 q4⟩
theorem KT.d {i s j : Nat} {x : Int32} {h h1 : Hp} (k : KT i s h h1) (hj : s ≤ j) : KT i s h (wI h1 (36, i) j x) :=
  ⟨k.1, fun a q1 q2 q3 => (wI_off _ _ _ _ a q3).trans (k.2.1 a q1 q2 q3), fun q hq => ⟨(k.2.2.1 q hq).1, (wI_f (by omega)).trans (k.2.2.1 q hq).2⟩, fun q q1 q2 q3 q4 => k.2.2.2 q q1 q2 q3 q4⟩
/-- begun in h with s0 steps, now at p with s steps -/
def ST (b : Nat → Nat) (n i s0 p s : Nat) (h h1 : Hp) : Prop := TC b n i h1 ∧ KT i s0 h h1 ∧ h1.1 (6, i) 8 = nI p ∧ h1.1 (6, i) 9 = nI s
theorem ST.at {b : Nat → Nat} {n i s0 p s q : Nat} {h h1 : Hp} (t : ST b n i s0 p s h h1) : ST b n i s0 q s h (wI h1 (6, i) 8 (nI q)) :=
  ⟨t.1.k ((KT.rf i 0 h1).f (Or.inl rfl)), t.2.1.f (Or.inl rfl), wI_same _ _ _ _, (wI_f (by decide)).trans t.2.2.2⟩
/-- the same, begun again here -/
theorem ST.re {b : Nat → Nat} {n i s0 p s : Nat} {h h1 : Hp} (t : ST b n i s0 p s h h1) (s1 : Nat) : ST b n i s1 p s h1 h1 := ⟨t.1, KT.rf _ _ _, t.2.2⟩
theorem ST.tr {b : Nat → Nat} {n i s0 s1 p q s s2 : Nat} {h h1 h2 : Hp} (t : ST b n i s0 p s h h1) (u : ST b n i s1 q s2 h1 h2) (hs : s0 ≤ s1) : ST b n i s0 q s2 h h2 := ⟨u.1, t.2.1.tr u.2.1 hs, u.2.2⟩
noncomputable def hrc (b : Nat → Nat) (n p : Nat) : Int32 := cif (p < n) (nI (b p)) (-1)
theorem hrc_t {b : Nat → Nat} {n p : Nat} (h : p < n) : hrc b n p = nI (b p) := cif_t h
theorem hrc_f {b : Nat → Nat} {n p : Nat} (h : ¬ p < n) : hrc b n p = -1 := cif_f h
theorem hrc_eq {b : Nat → Nat} {n p c : Nat} (hb : HB b n) (h0 : 0 < c) (h1 : c < 256) : hrc b n p = nI c ↔ b p = c := by
  by_cases q : p < n
  · rw [hrc_t q]
    have := hb.2.1 p
    exact nI_eq (by omega) (by omega)
  · rw [hrc_f q]
    have := hb.2.2 p (by omega)
    exact ⟨fun z => absurd z.symm (nI_ne_neg (by omega)), fun z => by omega⟩
theorem hrc_b {b : Nat → Nat} {n p : Nat} (hb : HB b n) (h : b p ≠ 0) : hrc b n p = nI (b p) := hrc_t (hb.lt h)
theorem hrc_dg {b : Nat → Nat} {n p : Nat} (hb : HB b n) : (nI 48 ≤ hrc b n p ∧ hrc b n p ≤ nI 57) ↔ dgt (b p) := by
  unfold dgt
  by_cases q : p < n
  · rw [hrc_t q]
    have := hb.2.1 p
    rw [nI_leI (by omega) (by omega), nI_leI (by omega) (by omega)]
  · rw [hrc_f q]
    have := hb.2.2 p (by omega)
    exact ⟨fun z => absurd z.1 (by decide), fun z => by omega⟩
theorem hrc_az {b : Nat → Nat} {n p : Nat} (hb : HB b n) (h1 : ¬ hrc b n p < nI 97) (h2 : ¬ nI 122 < hrc b n p) : 97 ≤ b p ∧ b p ≤ 122 ∧ hrc b n p = nI (b p) := by
  by_cases q : p < n
  · rw [hrc_t q] at h1 h2 ⊢
    have := hb.2.1 p
    rw [nI_ltI (by omega) (by omega)] at h1 h2
    exact ⟨by omega, by omega, rfl⟩
  · rw [hrc_f q] at h1
    exact absurd (by decide) h1
theorem hrc_lo {b : Nat → Nat} {n p : Nat} (hb : HB b n) (h1 : hrc b n p < nI 97) : ¬ isLt (b p) := by
  unfold isLt
  by_cases q : p < n
  · rw [hrc_t q] at h1
    have := hb.2.1 p
    rw [nI_ltI (by omega) (by omega)] at h1
    omega
  · have := hb.2.2 p (by omega)
    omega
theorem hrc_hi {b : Nat → Nat} {n p : Nat} (hb : HB b n) (h1 : nI 122 < hrc b n p) : ¬ isLt (b p) := by
  unfold isLt
  by_cases q : p < n
  · rw [hrc_t q] at h1
    have := hb.2.1 p
    rw [nI_ltI (by omega) (by omega)] at h1
    omega
  · have := hb.2.2 p (by omega)
    omega
set_option maxRecDepth 4000 in
theorem cr_here {E : En} (hok : EOK E) {h : Hp} {b : Nat → Nat} {n i p s s0 : Nat} {hh : Hp} (hb : HB b n) (hst : ST b n i s0 p s hh h) (hp : p ≤ n) : Fn E m_X6_here 0 [vR (6, i)] h (vI (hrc b n p)) := by
  have hn := hb.1
  have hs := hst.1.1
  refine Call.enter hok (by decide) (Nat.le_of_ble_eq_true rfl) ?_
  show G E m_X6_here 0 0 0 _ h 0 [some (vR (6, i))] [] h 0 0
  refine g_aload_n (pc' := 1) dX6_here_0 rfl rfl ?_
  refine g_getIv (v := nI (p)) (pc' := 4) (k := 8) dX6_here_1 rfl rfl ck_7 (by decide) fl_X6_43 rfl (hst.2.2.1) ?_
  refine g_if_lt (tgt := 42) (pc' := 7) dX6_here_4 rfl (by decide) (fun c4 => ?_) (fun c4 => ?_)
  · exact absurd c4 (nI_pos (by omega))
  ·
    refine g_aload_n (pc' := 8) dX6_here_7 rfl rfl ?_
    refine g_getIv (v := nI (p)) (pc' := 11) (k := 8) dX6_here_8 rfl rfl ck_7 (by decide) fl_X6_43 rfl (hst.2.2.1) ?_
    refine g_aload_n (pc' := 12) dX6_here_11 rfl rfl ?_
    refine g_getIv (v := nI (n)) (pc' := 15) (k := 7) dX6_here_12 rfl rfl ck_7 (by decide) fl_X6_39 rfl (hst.1.2.2.1) ?_
    refine g_icmp_geN (tgt := 42) (pc' := 18) dX6_here_15 rfl (by decide) (by omega) (by omega) (fun c15 => ?_) (fun c15 => ?_)
    ·
      refine g_iconst (v := -1) (pc' := 43) dX6_here_42 rfl (by decide) ?_
      refine g_iret dX6_here_43 rfl (by decide) (by decide) ?_
      exact ⟨congrArg (fun z : Int32 => some (vI z)) (show _ = hrc b n p from (hrc_f (by omega)).symm), rfl⟩
    ·
      refine g_aload_n (pc' := 19) dX6_here_18 rfl rfl ?_
      refine g_getIv (v := nI (p)) (pc' := 22) (k := 8) dX6_here_19 rfl rfl ck_7 (by decide) fl_X6_43 rfl (hst.2.2.1) ?_
      refine g_aload_n (pc' := 23) dX6_here_22 rfl rfl ?_
      refine g_getR (pc' := 26) (k := 6) (r := some (20, 0)) dX6_here_23 rfl rfl ck_7 (by decide) fl_X6_30 rfl (hst.1.2.1) ?_
      refine g_alen (pc' := 27) (v := nI 220) dX6_here_26 rfl rfl (by decide) rfl ?_
      refine g_icmp_geN (tgt := 42) (pc' := 30) dX6_here_27 rfl (by decide) (by omega) (by omega) (fun c27 => ?_) (fun c27 => ?_)
      · exact absurd c27 (by omega)
      ·
        refine g_aload_n (pc' := 31) dX6_here_30 rfl rfl ?_
        refine g_getR (pc' := 34) (k := 6) (r := some (20, 0)) dX6_here_31 rfl rfl ck_7 (by decide) fl_X6_30 rfl (hst.1.2.1) ?_
        refine g_aload_n (pc' := 35) dX6_here_34 rfl rfl ?_
        refine g_getIv (v := nI (p)) (pc' := 38) (k := 8) dX6_here_35 rfl rfl ck_7 (by decide) fl_X6_43 rfl (hst.2.2.1) ?_
        refine g_ialdN (pc' := 39) (v := nI (b p)) dX6_here_38 rfl rfl (by decide) (by omega) (hst.1.2.2.2.1 p (by omega)) ?_
        refine g_goto (tgt := 43) dX6_here_39 (by decide) ?_
        refine g_iret dX6_here_43 rfl (by decide) (by decide) ?_
        exact ⟨congrArg (fun z : Int32 => some (vI z)) (show _ = hrc b n p from (hrc_t (by omega)).symm), rfl⟩
set_option maxRecDepth 4000 in
theorem cr_digit {E : En} (hok : EOK E) {h : Hp} {b : Nat → Nat} {n p : Nat} (hb : HB b n) : Fn E m_X6_isDigit 0 [vI (hrc b n p)] h (vI (bi (dgt (b p)))) := by
  refine Call.enter hok (by decide) (Nat.le_of_ble_eq_true rfl) ?_
  show G E m_X6_isDigit 0 0 0 _ h 0 [some (vI (hrc b n p))] [] h 0 0
  refine g_iload_n (pc' := 1) dX6_isDigit_0 rfl rfl ?_
  refine g_bipushN (n := 48) (pc' := 3) dX6_isDigit_1 rfl (by decide) ?_
  refine g_icmp_lt (tgt := 16) (pc' := 6) dX6_isDigit_3 rfl (by decide) (fun c3 => ?_) (fun c3 => ?_)
  ·
    refine g_iconstN (n := 0) (pc' := 17) dX6_isDigit_16 rfl ?_
    refine g_zret dX6_isDigit_17 rfl (by rfl) (by decide) (by decide) ?_
    exact ⟨congrArg (fun z : Int32 => some (vI z)) (show _ = bi (dgt (b p)) from (bi_f (fun z => absurd ((hrc_dg hb).mpr z).1 (Int32.not_le.mpr c3))).symm), rfl⟩
  ·
    refine g_iload_n (pc' := 7) dX6_isDigit_6 rfl rfl ?_
    refine g_bipushN (n := 57) (pc' := 9) dX6_isDigit_7 rfl (by decide) ?_
    refine g_icmp_gt (tgt := 16) (pc' := 12) dX6_isDigit_9 rfl (by decide) (fun c9 => ?_) (fun c9 => ?_)
    ·
      refine g_iconstN (n := 0) (pc' := 17) dX6_isDigit_16 rfl ?_
      refine g_zret dX6_isDigit_17 rfl (by rfl) (by decide) (by decide) ?_
      exact ⟨congrArg (fun z : Int32 => some (vI z)) (show _ = bi (dgt (b p)) from (bi_f (fun z => absurd ((hrc_dg hb).mpr z).2 (Int32.not_le.mpr c9))).symm), rfl⟩
    ·
      refine g_iconstN (n := 1) (pc' := 13) dX6_isDigit_12 rfl ?_
      refine g_goto (tgt := 17) dX6_isDigit_13 (by decide) ?_
      refine g_zret dX6_isDigit_17 rfl (by rfl) (by decide) (by decide) ?_
      exact ⟨congrArg (fun z : Int32 => some (vI z)) (show _ = bi (dgt (b p)) from (bi_t ((hrc_dg hb).mp ⟨Int32.not_lt.mp c3, Int32.not_lt.mp c9⟩)).symm), rfl⟩
def fltH (i f p : Nat) (h : Hp) : Hp := wI (wI h (6, i) 11 (nI f)) (6, i) 12 (nI p)
set_option maxRecDepth 4000 in
theorem cr_failed {E : En} (hok : EOK E) {h : Hp} {i p : Nat} (hat : h.1 (6, i) 8 = nI p) (f : Nat) : Fm E m_X6_failed 0 [vR (6, i), vI (nI f)] h (some (vI (nI 0))) (fltH i f p h) := by
  refine Call.enter hok (by decide) (Nat.le_of_ble_eq_true rfl) ?_
  show G E m_X6_failed 0 0 0 _ h 0 [some (vR (6, i)), some (vI (nI f))] [] h 0 0
  refine g_aload_n (pc' := 1) dX6_failed_0 rfl rfl ?_
  refine g_iload_n (pc' := 2) dX6_failed_1 rfl rfl ?_
  refine g_putI (pc' := 5) (k := 11) dX6_failed_2 rfl rfl ck_7 (by decide) fl_X6_52 rfl rfl rfl rfl ?_
  refine g_aload_n (pc' := 6) dX6_failed_5 rfl rfl ?_
  refine g_aload_n (pc' := 7) dX6_failed_6 rfl rfl ?_
  refine g_getIv (v := nI (p)) (pc' := 10) (k := 8) dX6_failed_7 rfl rfl ck_7 (by decide) fl_X6_43 rfl ((wI_f (by decide)).trans hat) ?_
  refine g_putI (pc' := 13) (k := 12) dX6_failed_10 rfl rfl ck_7 (by decide) fl_X6_55 rfl rfl rfl rfl ?_
  refine g_iconstN (n := 0) (pc' := 14) dX6_failed_13 rfl ?_
  refine g_zret dX6_failed_14 rfl (by rfl) (by decide) (by decide) ?_
  exact ⟨rfl, rfl⟩
set_option maxRecDepth 4000 in
theorem cr_sign {E : En} (hok : EOK E) {h : Hp} {b : Nat → Nat} {n i p s s0 : Nat} {hh : Hp} (hb : HB b n) (hst : ST b n i s0 p s hh h) (hp : p ≤ n) {c : Nat} (hc : 0 < c ∧ c < 256) : Fm E m_X6_readSign 1 [vR (6, i), vI (nI c)] h (some (vI (bi (b p = c)))) (cif (b p = c) (wI h (6, i) 8 (nI (p + 1))) (fltH i 1 p h)) := by
  have hn := hb.1
  have hs := hst.1.1
  refine Call.enter hok (by decide) (Nat.le_of_ble_eq_true rfl) ?_
  show G E m_X6_readSign 1 0 0 _ h 0 [some (vR (6, i)), some (vI (nI c))] [] h 0 0
  refine g_aload_n (pc' := 1) dX6_readSign_0 rfl rfl ?_
  refine g_invV (pc' := 4) (cr_here hok hb hst (by omega)) dX6_readSign_1 rfl rfl ck_7 rfl ml_X6_66 im_X6_here sl_X6_here in_X6 co_X6_here pd_X6_here rfl (by omega) (by decide) ⟨by decide, by decide⟩ (Nat.le_of_ble_eq_true rfl) ?_
  rintro _ _ ⟨rfl, rfl⟩ -
  refine g_iload_n (pc' := 5) dX6_readSign_4 rfl rfl ?_
  refine g_icmp_eq (tgt := 14) (pc' := 8) dX6_readSign_5 rfl (by decide) (fun c5 => ?_) (fun c5 => ?_)
  ·
    refine g_aload_n (pc' := 15) dX6_readSign_14 rfl rfl ?_
    refine g_dup (pc' := 16) dX6_readSign_15 rfl rfl ?_
    refine g_getIv (v := nI (p)) (pc' := 19) (k := 8) dX6_readSign_16 rfl rfl ck_7 (by decide) fl_X6_43 rfl (hst.2.2.1) ?_
    refine g_iconstN (n := 1) (pc' := 20) dX6_readSign_19 rfl ?_
    refine g_iaddN (pc' := 21) dX6_readSign_20 rfl ?_
    refine g_putI (pc' := 24) (k := 8) dX6_readSign_21 rfl rfl ck_7 (by decide) fl_X6_43 rfl rfl rfl rfl ?_
    refine g_iconstN (n := 1) (pc' := 25) dX6_readSign_24 rfl ?_
    refine g_zret dX6_readSign_25 rfl (by rfl) (by decide) (by decide) ?_
    rw [bi_t ((hrc_eq hb hc.1 hc.2).mp c5), cif_t ((hrc_eq hb hc.1 hc.2).mp c5)]
    exact ⟨rfl, rfl⟩
  ·
    refine g_aload_n (pc' := 9) dX6_readSign_8 rfl rfl ?_
    refine g_iconstN (n := 1) (pc' := 10) dX6_readSign_9 rfl ?_
    refine g_invV (pc' := 13) (cr_failed hok hst.2.2.1 1) dX6_readSign_10 rfl rfl ck_7 rfl ml_X6_70 im_X6_failed sl_X6_failed in_X6 co_X6_failed pd_X6_failed rfl (by omega) (by decide) ⟨by decide, by decide⟩ (Nat.le_of_ble_eq_true rfl) ?_
    rintro _ _ ⟨rfl, rfl⟩ -
    refine g_zret dX6_readSign_13 rfl (by rfl) (by decide) (by decide) ?_
    rw [bi_f (fun z => c5 ((hrc_eq hb hc.1 hc.2).mpr z)), cif_f (fun z => c5 ((hrc_eq hb hc.1 hc.2).mpr z))]
    exact ⟨rfl, rfl⟩
def asH (i s : Nat) (c a : Int32) (h : Hp) : Hp := if s < 200 then wI (wI (wI h (35, i) s c) (36, i) s a) (6, i) 9 (nI (s + 1)) else h
theorem as_t {i s : Nat} {c a : Int32} {h : Hp} (q : s < 200) : asH i s c a h = wI (wI (wI h (35, i) s c) (36, i) s a) (6, i) 9 (nI (s + 1)) := if_pos q
theorem as_f {i s : Nat} {c a : Int32} {h : Hp} (q : ¬ s < 200) : asH i s c a h = h := if_neg q
set_option maxRecDepth 4000 in
theorem cr_add {E : En} (hok : EOK E) {h : Hp} {i s : Nat} (hs : Shp h.2) (hsc : h.1 (6, i) 9 = nI s) (h200 : s ≤ 200) (c a : Int32) : Fm E m_X6_addStep 0 [vR (6, i), vI c, vI a] h none (asH i s c a h) := by
  refine Call.enter hok (by decide) (Nat.le_of_ble_eq_true rfl) ?_
  show G E m_X6_addStep 0 0 0 _ h 0 [some (vR (6, i)), some (vI c), some (vI a)] [] h 0 0
  refine g_aload_n (pc' := 1) dX6_addStep_0 rfl rfl ?_
  refine g_getIv (v := nI (s)) (pc' := 4) (k := 9) dX6_addStep_1 rfl rfl ck_7 (by decide) fl_X6_46 rfl (hsc) ?_
  refine g_sipushN (n := 200) (pc' := 7) dX6_addStep_4 rfl (by decide) ?_
  refine g_icmp_geN (tgt := 40) (pc' := 10) dX6_addStep_7 rfl (by decide) (by omega) (by omega) (fun c7 => ?_) (fun c7 => ?_)
  ·
    refine g_vret dX6_addStep_40 rfl (by decide) (by decide) ?_
    exact ⟨rfl, as_f (by omega)⟩
  ·
    refine g_aload_n (pc' := 11) dX6_addStep_10 rfl rfl ?_
    refine g_getS (pc' := 14) (k := 0) (b := (35, i)) dX6_addStep_11 rfl rfl ck_7 (by decide) fl_X6_9 rfl hs rfl ?_
    refine g_aload_n (pc' := 15) dX6_addStep_14 rfl rfl ?_
    refine g_getIv (v := nI (s)) (pc' := 18) (k := 9) dX6_addStep_15 rfl rfl ck_7 (by decide) fl_X6_46 rfl (hsc) ?_
    refine g_iload_n (pc' := 19) dX6_addStep_18 rfl rfl ?_
    refine g_iastN (pc' := 20) dX6_addStep_19 rfl rfl (by decide) (by omega) ?_
    refine g_aload_n (pc' := 21) dX6_addStep_20 rfl rfl ?_
    refine g_getS (pc' := 24) (k := 1) (b := (36, i)) dX6_addStep_21 rfl rfl ck_7 (by decide) fl_X6_15 rfl hs rfl ?_
    refine g_aload_n (pc' := 25) dX6_addStep_24 rfl rfl ?_
    refine g_getIv (v := nI (s)) (pc' := 28) (k := 9) dX6_addStep_25 rfl rfl ck_7 (by decide) fl_X6_46 rfl (hsc) ?_
    refine g_iload_n (pc' := 29) dX6_addStep_28 rfl rfl ?_
    refine g_iastN (pc' := 30) dX6_addStep_29 rfl rfl (by decide) (by omega) ?_
    refine g_aload_n (pc' := 31) dX6_addStep_30 rfl rfl ?_
    refine g_dup (pc' := 32) dX6_addStep_31 rfl rfl ?_
    refine g_getIv (v := nI (s)) (pc' := 35) (k := 9) dX6_addStep_32 rfl rfl ck_7 (by decide) fl_X6_46 rfl (hsc) ?_
    refine g_iconstN (n := 1) (pc' := 36) dX6_addStep_35 rfl ?_
    refine g_iaddN (pc' := 37) dX6_addStep_36 rfl ?_
    refine g_putI (pc' := 40) (k := 9) dX6_addStep_37 rfl rfl ck_7 (by decide) fl_X6_46 rfl rfl rfl rfl ?_
    refine g_vret dX6_addStep_40 rfl (by decide) (by decide) ?_
    exact ⟨rfl, as_t (by omega)⟩
set_option maxRecDepth 4000 in
theorem cr_end {E : En} (hok : EOK E) {h : Hp} {i j : Nat} (hs : Shp h.2) (hj : j < 200) : Fm E m_X6_endJump 0 [vR (6, i), vI (nI j)] h none (wI h (36, i) j (h.1 (6, i) 9)) := by
  refine Call.enter hok (by decide) (Nat.le_of_ble_eq_true rfl) ?_
  show G E m_X6_endJump 0 0 0 _ h 0 [some (vR (6, i)), some (vI (nI j))] [] h 0 0
  refine g_iload_n (pc' := 1) dX6_endJump_0 rfl rfl ?_
  refine g_sipushN (n := 200) (pc' := 4) dX6_endJump_1 rfl (by decide) ?_
  refine g_icmp_geN (tgt := 17) (pc' := 7) dX6_endJump_4 rfl (by decide) (by omega) (by omega) (fun c4 => ?_) (fun c4 => ?_)
  · exact absurd c4 (by omega)
  ·
    refine g_aload_n (pc' := 8) dX6_endJump_7 rfl rfl ?_
    refine g_getS (pc' := 11) (k := 1) (b := (36, i)) dX6_endJump_8 rfl rfl ck_7 (by decide) fl_X6_15 rfl hs rfl ?_
    refine g_iload_n (pc' := 12) dX6_endJump_11 rfl rfl ?_
    refine g_aload_n (pc' := 13) dX6_endJump_12 rfl rfl ?_
    refine g_getI (pc' := 16) (k := 9) dX6_endJump_13 rfl rfl ck_7 (by decide) fl_X6_46 rfl ?_
    refine g_iastN (pc' := 17) dX6_endJump_16 rfl rfl (by decide) (by omega) ?_
    refine g_vret dX6_endJump_17 rfl (by decide) (by decide) ?_
    exact ⟨rfl, rfl⟩
/-- an answer that is right, and one that is not -/
def OB (b : Nat → Nat) (n i : Nat) (bo : Bool) (p s : Nat) (r : Rs) (h h' : Hp) : Prop := ∃ s', ST b n i s r.2.1 s' h h' ∧ s < s' ∧ s' + p ≤ s + r.2.1 ∧ SC (h'.1 (35, i)) (h'.1 (36, i)) s s' bo r.2.2
def FB (b : Nat → Nat) (n i s : Nat) (r : Rs) (h h' : Hp) : Prop := TC b n i h' ∧ KT i s h h' ∧ (∃ s', s ≤ s' ∧ s' ≤ 200 ∧ h'.1 (6, i) 9 = nI s') ∧ h'.1 (6, i) 11 = nI r.1 ∧ h'.1 (6, i) 12 = nI r.2.1
def PB (b : Nat → Nat) (n i : Nat) (bo : Bool) (p s : Nat) (r : Rs) (h : Hp) (v : Option V) (h' : Hp) : Prop := v = some (vI (bi (r.1 = 0))) ∧ (r.1 = 0 → OB b n i bo p s r h h') ∧ (¬ r.1 = 0 → FB b n i s r h h')
theorem PB.ok {b : Nat → Nat} {n i : Nat} {bo : Bool} {p s : Nat} {r : Rs} {h h' : Hp} (e : r.1 = 0) (q : OB b n i bo p s r h h') : PB b n i bo p s r h (some (vI (nI 1))) h' := ⟨by rw [bi_t e]; rfl, fun _ => q, fun z => absurd e z⟩
theorem PB.no {b : Nat → Nat} {n i : Nat} {bo : Bool} {p s : Nat} {r : Rs} {h h' : Hp} (e : ¬ r.1 = 0) (q : FB b n i s r h h') : PB b n i bo p s r h (some (vI (nI 0))) h' := ⟨by rw [bi_f e]; rfl, fun z => absurd z e, fun _ => q⟩
theorem FB.fa {b : Nat → Nat} {n i s0 p s f : Nat} {A : Mng} {h h1 : Hp} (t : ST b n i s0 p s h h1) (h0 : s0 ≤ s) (h2 : s ≤ 200) : FB b n i s0 (f, p, A) h (fltH i f p h1) :=
  have k : KT i 0 h1 (fltH i f p h1) := ((KT.rf i 0 h1).f (Or.inr (Or.inr (Or.inl rfl)))).f (Or.inr (Or.inr (Or.inr rfl)))
  ⟨t.1.k k, (t.2.1.f (Or.inr (Or.inr (Or.inl rfl)))).f (Or.inr (Or.inr (Or.inr rfl))), ⟨s, h0, h2, (wI_f (by decide)).trans ((wI_f (by decide)).trans t.2.2.2)⟩, (wI_f (by decide)).trans (wI_same _ _ _ _), wI_same _ _ _ _⟩
theorem FB.tr {b : Nat → Nat} {n i s0 s1 p s : Nat} {r : Rs} {h h1 h2 : Hp} (t : ST b n i s0 p s h h1) (q : FB b n i s1 r h1 h2) (hs : s0 ≤ s1) : FB b n i s0 r h h2 := by
  obtain ⟨s', a, c, e⟩ := q.2.2.1
  exact ⟨q.1, t.2.1.tr q.2.1 hs, ⟨s', by omega, c, e⟩, q.2.2.2⟩
theorem KT.as {i s s1 : Nat} {c a : Int32} {h h1 : Hp} (k : KT i s h h1) (hs : s ≤ s1) : KT i s h (asH i s1 c a h1) := by
  by_cases q : s1 < 200
  · rw [as_t q]; exact ((k.c hs).d hs).f (Or.inr (Or.inl rfl))
  · rw [as_f q]; exact k
theorem FB.as {b : Nat → Nat} {n i s s1 : Nat} {r : Rs} {c a : Int32} {h h1 : Hp} (t : FB b n i s r h h1) (h0 : s ≤ s1) (h2 : s1 ≤ 200) (e : h1.1 (6, i) 9 = nI s1) : FB b n i s r h (asH i s1 c a h1) := by
  refine ⟨t.1.k ((KT.rf i 0 h1).as (Nat.zero_le s1)), t.2.1.as h0, ?_⟩
  by_cases q : s1 < 200
  · rw [as_t q]
    exact ⟨⟨s1 + 1, by omega, by omega, wI_same _ _ _ _⟩, (wI_f (by decide)).trans t.2.2.2.1, (wI_f (by decide)).trans t.2.2.2.2⟩
  · rw [as_f q]
    exact ⟨⟨s1, h0, h2, e⟩, t.2.2.2⟩
theorem FB.ej {b : Nat → Nat} {n i s j : Nat} {r : Rs} {x : Int32} {h h1 : Hp} (t : FB b n i s r h h1) (h0 : s ≤ j) : FB b n i s r h (wI h1 (36, i) j x) :=
  ⟨t.1.k ((KT.rf i 0 h1).d (Nat.zero_le j)), t.2.1.d h0, t.2.2⟩
theorem ST.as {b : Nat → Nat} {n i s0 p s : Nat} {c a : Int32} {h h1 : Hp} (t : ST b n i s0 p s h h1) (h0 : s0 ≤ s) (q : s < 200) : ST b n i s0 p (s + 1) h (asH i s c a h1) := by
  refine ⟨t.1.k ((KT.rf i 0 h1).as (Nat.zero_le s)), t.2.1.as h0, ?_⟩
  rw [as_t q]
  exact ⟨(wI_f (by decide)).trans t.2.2.1, wI_same _ _ _ _⟩
theorem ST.ej {b : Nat → Nat} {n i s0 p s j : Nat} {x : Int32} {h h1 : Hp} (t : ST b n i s0 p s h h1) (h0 : s0 ≤ j) : ST b n i s0 p s h (wI h1 (36, i) j x) :=
  ⟨t.1.k ((KT.rf i 0 h1).d (Nat.zero_le j)), t.2.1.d h0, t.2.2⟩
theorem as_c {i s : Nat} {c a : Int32} {h : Hp} (q : s < 200) : (asH i s c a h).1 (35, i) s = c ∧ (asH i s c a h).1 (36, i) s = a := by
  rw [as_t q]
  exact ⟨wI_same h (35, i) s c, wI_same (wI h (35, i) s c) (36, i) s a⟩
/-- pieces of steps stay when later ones are written -/
theorem SC.kt {i s s1 : Nat} {bo : Bool} {F : Mng} {h h1 : Hp} {s2 : Nat} (q : SC (h.1 (35, i)) (h.1 (36, i)) s s1 bo F) (k : KT i s2 h h1) (hs : s1 ≤ s2) : SC (h1.1 (35, i)) (h1.1 (36, i)) s s1 bo F :=
  q.congr (Nat.le_refl s) (Nat.le_refl s1) (fun j _ hj => (k.2.2.1 j (by omega)).1) (fun j _ hj => (k.2.2.1 j (by omega)).2)
theorem SC.as {i s s1 s2 : Nat} {bo : Bool} {F : Mng} {c a : Int32} {h : Hp} (q : SC (h.1 (35, i)) (h.1 (36, i)) s s1 bo F) (hs : s1 ≤ s2) : SC ((asH i s2 c a h).1 (35, i)) ((asH i s2 c a h).1 (36, i)) s s1 bo F := q.kt ((KT.rf i s2 h).as (Nat.le_refl s2)) hs
theorem SC.asA {i s s1 s2 g : Nat} {F1 F2 : Mng} {a : Int32} {h : Hp} (q1 : SC (h.1 (35, i)) (h.1 (36, i)) s s1 false F1) (q2 : SC (h.1 (35, i)) (h.1 (36, i)) s1 s2 false F2) (hg : isAr g) (h2 : s2 < 200) : SC ((asH i s2 (nI g) a h).1 (35, i)) ((asH i s2 (nI g) a h).1 (36, i)) s (s2 + 1) false (fBin g F1 F2) :=
  SC.ari (q1.as (by have := q2.lt; omega)) (q2.as (Nat.le_refl _)) (as_c h2).1 hg
theorem SC.asC {i s s1 s2 g : Nat} {F1 F2 : Mng} {a : Int32} {h : Hp} (q1 : SC (h.1 (35, i)) (h.1 (36, i)) s s1 false F1) (q2 : SC (h.1 (35, i)) (h.1 (36, i)) s1 s2 false F2) (hg : isCm g) (h2 : s2 < 200) : SC ((asH i s2 (nI g) a h).1 (35, i)) ((asH i s2 (nI g) a h).1 (36, i)) s (s2 + 1) true (fBin g F1 F2) :=
  SC.cmp (q1.as (by have := q2.lt; omega)) (q2.as (Nat.le_refl _)) (as_c h2).1 hg
theorem SC.asN {i s s1 : Nat} {F : Mng} {a : Int32} {h : Hp} (q1 : SC (h.1 (35, i)) (h.1 (36, i)) s s1 true F) (h2 : s1 < 200) : SC ((asH i s1 (nI 33) a h).1 (35, i)) ((asH i s1 (nI 33) a h).1 (36, i)) s (s1 + 1) true (fNot F) :=
  SC.non (q1.as (Nat.le_refl _)) (as_c h2).1
theorem SC.asV {i s : Nat} {v : Int32} {h : Hp} (h2 : s < 200) : SC ((asH i s (nI 48) v h).1 (35, i)) ((asH i s (nI 48) v h).1 (36, i)) s (s + 1) false (fN v) := by
  have q := SC.num (c := (asH i s (nI 48) v h).1 (35, i)) (a := (asH i s (nI 48) v h).1 (36, i)) (as_c h2).1
  rw [(as_c h2).2] at q
  exact q
theorem SC.asL {i s l : Nat} {h : Hp} (h2 : s < 200) (hl : isLt l) : SC ((asH i s (nI 97) (nI (l - 97)) h).1 (35, i)) ((asH i s (nI 97) (nI (l - 97)) h).1 (36, i)) s (s + 1) false (fL l) :=
  SC.let (as_c h2).1 hl (as_c h2).2
/-- & and |: the sign stood at s1, behind it the second piece; then the jump is ended -/
theorem SC.ejA {i s s1 s2 g : Nat} {F1 F2 : Mng} {h : Hp} {x : Int32} (hg : g = 38 ∨ g = 124) (q1 : SC (h.1 (35, i)) (h.1 (36, i)) s s1 true F1) (q2 : SC (h.1 (35, i)) (h.1 (36, i)) (s1 + 1) s2 true F2) (hc : h.1 (35, i) s1 = nI g) (hx : x = nI s2) : SC ((wI h (36, i) s1 x).1 (35, i)) ((wI h (36, i) s1 x).1 (36, i)) s s2 true (if g = 38 then fAnd F1 F2 else fOr F1 F2) := by
  have a1 : SC ((wI h (36, i) s1 x).1 (35, i)) ((wI h (36, i) s1 x).1 (36, i)) s s1 true F1 := q1.congr (Nat.le_refl _) (Nat.le_refl _) (fun _ _ _ => rfl) (fun j _ hj => wI_f (by omega))
  have a2 : SC ((wI h (36, i) s1 x).1 (35, i)) ((wI h (36, i) s1 x).1 (36, i)) (s1 + 1) s2 true F2 := q2.congr (Nat.le_refl _) (Nat.le_refl _) (fun _ _ _ => rfl) (fun j hj _ => wI_f (by omega))
  have a3 : (wI h (36, i) s1 x).1 (36, i) s1 = nI s2 := (wI_same _ _ _ _).trans hx
  rcases hg with rfl | rfl
  · rw [if_pos rfl]; exact SC.con a1 a2 hc a3
  · rw [if_neg (by decide)]; exact SC.dis a1 a2 hc a3
