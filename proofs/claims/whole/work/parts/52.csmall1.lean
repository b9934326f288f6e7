/-! numbers in their bounds, as naturals -/
def pcN (m : St) (k s : Nat) : Nat := (m 113 (6 * k + s)).toNatClampNeg
def wtN (m : St) (k s : Nat) : Nat := (m 114 (6 * k + s)).toNatClampNeg
def hsN (m : St) (t s : Nat) : Nat := (m 125 (6 * t + s)).toNatClampNeg
theorem cl_of {x : Int32} {n : Nat} {y : Int32} (hy : y = nI n) (hn : n < 2 ^ 30) (q : 0 ≤ x ∧ x ≤ y) : x = nI x.toNatClampNeg ∧ x.toNatClampNeg ≤ n := by
  obtain ⟨j, hj, rfl⟩ := rng hy hn q
  rw [nI_clamp (show j < 2 ^ 31 by omega)]
  exact ⟨rfl, hj⟩
theorem pc_n {m : St} (hx : Wx m) {k s : Nat} (hk : k < nK m) (hs : s < 6) : m 113 (6 * k + s) = nI (pcN m k s) ∧ pcN m k s ≤ 6 := cl_of (n := 6) rfl (by decide) (hx.pc k s hk hs).1
theorem wt_n {m : St} (hx : Wx m) {k s : Nat} (hk : k < nK m) (hs : s < 6) : m 114 (6 * k + s) = nI (wtN m k s) ∧ wtN m k s ≤ 400 := cl_of (n := 400) rfl (by decide) (hx.pc k s hk hs).2
theorem hs_n {m : St} (hw : Wf m) (hx : Wx m) {t s : Nat} (ht : t < nT m) (hs : s < 6) : m 125 (6 * t + s) = nI (hsN m t s) ∧ hsN m t s ≤ pcN m (kd m t) s := by
  obtain ⟨p1, p2⟩ := pc_n hx (hw.kd ht).2 hs
  have q := hx.ha t s ht hs
  exact cl_of p1 (by omega) q
theorem smN_s' (f : Nat → Nat) (n : Nat) : smN f (n + 1) = smN f n + f n := rfl
theorem sm_nat {f : Nat → Int32} {v : Nat → Nat} : ∀ {n : Nat}, (∀ s, s < n → f s = nI (v s)) → sm f n = nI (smN v n)
  | 0, _ => rfl
  | n + 1, q => by
    rw [sm_s, sm_nat (n := n) (fun s hs => q s (by omega)), q n (Nat.lt_succ_self n), nI_add, smN_s']
theorem smN_b {f : Nat → Nat} {B : Nat} : ∀ {n : Nat}, (∀ i, i < n → f i ≤ B) → smN f n ≤ B * n
  | 0, _ => Nat.zero_le _
  | n + 1, q => by
    have ih := smN_b (f := f) (B := B) (n := n) (fun i hi => q i (by omega))
    have z := q n (Nat.lt_succ_self n)
    rw [smN_s', Nat.mul_succ]
    omega
/-- how many pieces a toy lacks -/
def lckN (m : St) (t : Nat) : Nat := smN (fun s => pcN m (kd m t) s - hsN m t s) 6
theorem nI_sub {a b : Nat} (h : b ≤ a) : nI a - nI b = nI (a - b) := by
  have e : nI (a - b) + nI b = nI a := by rw [nI_add, Nat.sub_add_cancel h]
  rw [← e, Int32.add_sub_cancel]
theorem lck_n {m : St} (hw : Wf m) (hx : Wx m) {t : Nat} (ht : t < nT m) : lck m t = nI (lckN m t) ∧ lckN m t ≤ 36 := by
  refine ⟨sm_nat fun s hs => ?_, ?_⟩
  · obtain ⟨p1, p2⟩ := pc_n hx (hw.kd ht).2 hs
    obtain ⟨h1, h2⟩ := hs_n hw hx ht hs
    rw [p1, h1, nI_sub h2]
  · exact smN_b (B := 6) (n := 6) fun s hs => by
      have := (pc_n hx (hw.kd ht).2 hs).2
      omega
theorem lck_pos {m : St} (hw : Wf m) (hx : Wx m) {t : Nat} (ht : t < nT m) : 0 < lck m t ↔ ¬ lck m t = 0 := by
  obtain ⟨a, b⟩ := lck_n hw hx ht
  rw [a, nI_lt0 (by omega), nI_eq0 (by omega)]
theorem cnt_ext {p : Nat → Prop} {n : Nat} : ∀ {N : Nat}, n ≤ N → (∀ k, n ≤ k → k < N → ¬ p k) → cnt p N = cnt p n
  | 0, h, _ => by rw [show n = 0 by omega]
  | N + 1, h, q => by
    by_cases e : n = N + 1
    · rw [e]
    · rw [cnt_f (q N (by omega) (Nat.lt_succ_self N)), Nat.add_zero]
      exact cnt_ext (by omega) (fun k h1 h2 => q k h1 (by omega))
theorem C6_mend {m : St} {h h' : Hp} (c : C6 m h) (hw : Wf m) {t : Nat} (ht : t < nT m) (e2 : h'.2 = h.2) (e3 : ∀ i, h'.1 (3, i) = h.1 (3, i)) (e13 : ∀ i, h'.1 (13, i) = h.1 (13, i)) (e26 : ∀ i, i ≠ t → h'.1 (26, i) = h.1 (26, i)) (et : ∀ j, j < 6 → h'.1 (26, t) j = m 113 (6 * kd m t + j)) : C6 (stN m 125 (6 * t) (fun s => m 113 (6 * kd m t + s)) 6) h' := by
  have ms : ∀ s, s ≠ 125 → stN m 125 (6 * t) (fun s => m 113 (6 * kd m t + s)) 6 s = m s := fun s q => stN_s _ _ _ _ q 6
  have eT : nT (stN m 125 (6 * t) (fun s => m 113 (6 * kd m t + s)) 6) = nT m := by unfold nT; rw [ms 1 (by decide)]
  have ek : ∀ u, kd (stN m 125 (6 * t) (fun s => m 113 (6 * kd m t + s)) 6) u = kd m u := fun u => congrArg Int32.toNatClampNeg (congrFun (ms 115 (by decide)) u)
  unfold C6 Ls at *
  simp only [eT, ek, e2, e3, e13, ms 116 (by decide), ms 118 (by decide), ms 119 (by decide), ms 120 (by decide), ms 121 (by decide), ms 123 (by decide), ms 117 (by decide), ms 122 (by decide), ms 124 (by decide)]
  refine ⟨c.1, fun u hu => ⟨(c.2.1 u hu).1, (c.2.1 u hu).2.1, fun j hj => ?_⟩, c.2.2⟩
  by_cases z : u = t
  · subst z
    rw [et j hj]
    exact (stN_at m 125 (6 * u) (fun s => m 113 (6 * kd m u + s)) 6 hj).symm
  · rw [e26 u z, (c.2.1 u hu).2.2 j hj]
    exact (stN_out m 125 (6 * t) _ 6 (by omega)).symm
set_option maxRecDepth 4000 in
theorem cx_makeWhole {E : En} (hok : EOK E) {h : Hp} {m : St} (hc : Cp m h) (hw : Wf m) {t : Nat} (ht : t < nT m) : Call E m_X8_makeWhole 1 0 0 [vR (3, t)] h (fun r h' => r = none ∧ wF h (26, t) (va_cpy (h.1 (24, kd m t)) (h.1 (26, t)) 0 0 6) = h') := by
  have hs := hc.s
  have hKb := hw.k.2
  have hTb := hw.t.2
  have hFb := hw.f.2
  have hRb := hw.r.2
  have hGb := hw.g.2
  have hAb := hw.a.2
  have hTlb := hw.tl.2
  have hNwb := hw.w.2
  have hkd := (hw.kd ht).2
  refine Call.enter hok (by decide) (Nat.le_of_ble_eq_true rfl) ?_
  show G E m_X8_makeWhole 1 0 0 _ h 0 [some (vR (3, t))] [] h 0 0
  refine g_aload_n (pc' := 1) dX8_makeWhole_0 rfl rfl ?_
  refine g_getR (pc' := 4) (k := 1) (r := some (2, kd m t)) dX8_makeWhole_1 rfl rfl ck_9 (by decide) fl_X8_15 rfl ((hc.c6.2.1 _ (by omega)).1) ?_
  refine g_getS (pc' := 7) (k := 6) (b := (24, kd m t)) dX8_makeWhole_4 rfl rfl ck_3 (by decide) fl_X8_22 rfl hs rfl ?_
  refine g_iconstN (n := 0) (pc' := 8) dX8_makeWhole_7 rfl ?_
  refine g_aload_n (pc' := 9) dX8_makeWhole_8 rfl rfl ?_
  refine g_getS (pc' := 12) (k := 3) (b := (26, t)) dX8_makeWhole_9 rfl rfl ck_9 (by decide) fl_X8_33 rfl hs rfl ?_
  refine g_iconstN (n := 0) (pc' := 13) dX8_makeWhole_12 rfl ?_
  refine g_bipushN (n := 6) (pc' := 15) dX8_makeWhole_13 rfl (by decide) ?_
  refine g_copyI (pc' := 18) dX8_makeWhole_15 rfl rfl rfl ml_X8_91 (by omega) (by omega) (by omega) (by omega) (Nat.le_of_ble_eq_true rfl) ?_
  refine g_vret dX8_makeWhole_18 rfl (by decide) (by decide) ?_
  exact ⟨rfl, rfl⟩
set_option maxRecDepth 4000 in
theorem cx_mend {E : En} (hok : EOK E) {h : Hp} {m : St} (hc : Cp m h) (hw : Wf m) (hx : Wx m) (t0 : Int32) : Call E m_X11_mend 5 0 0 [vR TH, vI t0] h (fun r h' => r = some (vI (sMend m t0).1) ∧ Cp (sMend m t0).2 h' ∧ mo h' = mo h) := by
  have hs := hc.s
  have hKb := hw.k.2
  have hTb := hw.t.2
  have hFb := hw.f.2
  have hRb := hw.r.2
  have hGb := hw.g.2
  have hAb := hw.a.2
  have hTlb := hw.tl.2
  have hNwb := hw.w.2
  refine Call.enter hok (by decide) (Nat.le_of_ble_eq_true rfl) ?_
  show G E m_X11_mend 5 0 0 _ h 0 [some (vR TH), some (vI t0), none, none] [] h 0 0
  refine g_aload_n (pc' := 1) dX11_mend_0 rfl rfl ?_
  refine g_iload_n (pc' := 2) dX11_mend_1 rfl rfl ?_
  rcases Classical.em (∃ j : Nat, j < nT m ∧ t0 = nI j) with w2 | w2
  ·
    have k2 := w2
    obtain ⟨t, ht, rfl⟩ := k2
    refine g_invV (pc' := 5) (cx_toyAt hok hc hw ht) dX11_mend_2 rfl rfl ck_12 rfl ml_X11_151 im_X11_toyAt sl_X11_toyAt in_X11 co_X11_toyAt pd_X11_toyAt rfl (by omega) (by decide) ⟨by decide, by decide⟩ (Nat.le_of_ble_eq_true rfl) ?_
    rintro _ _ ⟨rfl, rfl⟩ -
    refine g_astore_n (pc' := 6) dX11_mend_5 rfl (by decide) rfl ?_
    try simp only [List.set]
    refine g_aload_n (pc' := 7) dX11_mend_6 rfl rfl ?_
    refine g_ifnull (pc' := 10) dX11_mend_7 rfl ?_
    refine g_aload_n (pc' := 11) dX11_mend_10 rfl rfl ?_
    refine g_getIv (v := m 118 (t)) (pc' := 14) (k := 7) dX11_mend_11 rfl rfl ck_9 (by decide) fl_X11_264 rfl (hc.t7 (t := t) (by omega)) ?_
    refine g_if_ne (tgt := 24) (pc' := 17) dX11_mend_14 rfl (by decide) (fun c14 => ?_) (fun c14 => ?_)
    ·
      refine g_iconst (v := -1) (pc' := 25) dX11_mend_24 rfl (by decide) ?_
      refine g_iret dX11_mend_25 rfl (by decide) (by decide) ?_
      have e : sMend m (nI t) = (-1, m) := by unfold sMend; simp only [nI_clamp (show t < 2 ^ 31 by omega)]; exact cif_f (fun z => c14 z.2.1)
      rw [e]
      exact ⟨rfl, hc, rfl⟩
    ·
      refine g_aload_n (pc' := 18) dX11_mend_17 rfl rfl ?_
      refine g_invV (pc' := 21) (cx_lacking hok hc hw (t := t) (by omega)) dX11_mend_18 rfl rfl ck_9 rfl ml_X11_265 im_X8_lacking sl_X8_lacking in_X8 co_X8_lacking pd_X8_lacking rfl (by omega) (by decide) ⟨by decide, by decide⟩ (Nat.le_of_ble_eq_true rfl) ?_
      rintro _ _ ⟨rfl, rfl⟩ -
      refine g_if_ne (tgt := 26) (pc' := 24) dX11_mend_21 rfl (by decide) (fun c21 => ?_) (fun c21 => ?_)
      ·
        refine g_aload_n (pc' := 27) dX11_mend_26 rfl rfl ?_
        refine g_invV (pc' := 30) (cx_lacking hok hc hw (t := t) (by omega)) dX11_mend_27 rfl rfl ck_9 rfl ml_X11_265 im_X8_lacking sl_X8_lacking in_X8 co_X8_lacking pd_X8_lacking rfl (by omega) (by decide) ⟨by decide, by decide⟩ (Nat.le_of_ble_eq_true rfl) ?_
        rintro _ _ ⟨rfl, rfl⟩ -
        refine g_istore_n (pc' := 31) dX11_mend_30 rfl (by decide) rfl ?_
        try simp only [List.set]
        refine g_aload_n (pc' := 32) dX11_mend_31 rfl rfl ?_
        refine g_invV (pc' := 35) (cx_makeWhole hok hc hw (t := t) (by omega)) dX11_mend_32 rfl rfl ck_9 rfl ml_X11_268 im_X8_makeWhole sl_X8_makeWhole in_X8 co_X8_makeWhole pd_X8_makeWhole rfl (by omega) (by decide) ⟨by decide, by decide⟩ (Nat.le_of_ble_eq_true rfl) ?_
        rintro _ _ ⟨rfl, rfl⟩ -
        refine g_iload_n (pc' := 36) dX11_mend_35 rfl rfl ?_
        refine g_iret dX11_mend_36 rfl (by decide) (by decide) ?_
        have hkd := (hw.kd ht).2
        have e : sMend m (nI t) = (lck m t, stN m 125 (6 * t) (fun s => m 113 (6 * kd m t + s)) 6) := by unfold sMend; simp only [nI_clamp (show t < 2 ^ 31 by omega)]; exact cif_t ⟨w2, c14, (lck_pos hw hx ht).mpr c21⟩
        rw [e]
        have eo : ∀ b : Ad, b.1 ≠ 26 → (wF h (26, t) (va_cpy (h.1 (24, kd m t)) (h.1 (26, t)) 0 0 6)).1 b = h.1 b := fun b q => wF_off _ _ _ (ad_ne q)
        have ms : ∀ s, s ≠ 125 → stN m 125 (6 * t) (fun s => m 113 (6 * kd m t + s)) 6 s = m s := fun s q => stN_s _ _ _ _ q 6
        have m1 := ms 1 (by decide)
        have c6 : C6 (stN m 125 (6 * t) (fun s => m 113 (6 * kd m t + s)) 6) (wF h (26, t) (va_cpy (h.1 (24, kd m t)) (h.1 (26, t)) 0 0 6)) := C6_mend hc.c6 hw ht rfl (fun i => eo (3, i) (by show (3 : Nat) ≠ 26; decide)) (fun i => eo (13, i) (by show (13 : Nat) ≠ 26; decide)) (fun i q => wF_off _ _ _ (fun z => q (congrArg Prod.snd z))) (fun j hj => by rw [wF_same, cpy_in hj]; exact (hc.c5.2.1 _ hkd).2.1 j hj)
        refine ⟨rfl, show Cp (stN m 125 (6 * t) (fun s => m 113 (6 * kd m t + s)) 6) (wF h (26, t) (va_cpy (h.1 (24, kd m t)) (h.1 (26, t)) 0 0 6)) from ?_, mo_same (fun b q => eo b (fun z => by rw [z] at q; exact q rfl))⟩
        refine Cp.upd hc rfl ?_ ?_ c6 (hc.c7.same (fun i => by rw [eo (3, i) (by show (3 : Nat) ≠ 26; decide)]) (fun i => eo (27, i) (by show (27 : Nat) ≠ 26; decide)) (fun i => eo (28, i) (by show (28 : Nat) ≠ 26; decide)) (ms 167 (by decide)) (ms 168 (by decide)) (ms 169 (by decide)) (by unfold nT; rw [m1]) (by unfold nGf; rw [m1])) (hc.c8.same rfl (fun i j _ => by rw [eo (4, i) (by show (4 : Nat) ≠ 26; decide)]) (fun i => eo (13, i) (by show (13 : Nat) ≠ 26; decide)) (fun i => eo (29, i) (by show (29 : Nat) ≠ 26; decide)) (ms 126 (by decide)) (ms 127 (by decide)) (ms 128 (by decide)) (ms 129 (by decide)) (ms 186 (by decide)) (by unfold nF; rw [m1])) (hc.c10.same (fun i => eo (8, i) (by show (8 : Nat) ≠ 26; decide)) (by rw [m1]) (by rw [m1]) (fun i => eo (31, i) (by show (31 : Nat) ≠ 26; decide)) (fun i => eo (32, i) (by show (32 : Nat) ≠ 26; decide)) (fun i => eo (33, i) (by show (33 : Nat) ≠ 26; decide)) (fun i => eo (34, i) (by show (34 : Nat) ≠ 26; decide)) (ms 172 (by decide)) (ms 173 (by decide)) (ms 174 (by decide)) (ms 175 (by decide)) (by unfold nA; rw [m1])) (hc.c11.same (ms 176 (by decide)) (ms 177 (by decide)) (ms 178 (by decide)) (ms 179 (by decide)) (by unfold nF; rw [m1]) (by unfold nA; rw [m1]) (fun f => by rw [eo (4, f) (by show (4 : Nat) ≠ 26; decide)]) (eo (23, 0) (by show (23 : Nat) ≠ 26; decide))) ?_ (fun i => eo (21, i) (by show (21 : Nat) ≠ 26; decide)) (fun i => eo (22, i) (by show (22 : Nat) ≠ 26; decide)) (fun i => eo (13, i) (by show (13 : Nat) ≠ 26; decide)) (fun i => eo (2, i) (by show (2 : Nat) ≠ 26; decide)) (fun i => eo (24, i) (by show (24 : Nat) ≠ 26; decide)) (fun i => eo (25, i) (by show (25 : Nat) ≠ 26; decide)) (fun i => eo (5, i) (by show (5 : Nat) ≠ 26; decide)) (fun i => eo (30, i) (by show (30 : Nat) ≠ 26; decide)) (fun i => eo (6, i) (by show (6 : Nat) ≠ 26; decide)) (fun i => eo (35, i) (by show (35 : Nat) ≠ 26; decide)) (fun i => eo (36, i) (by show (36 : Nat) ≠ 26; decide)) (fun i => eo (37, i) (by show (37 : Nat) ≠ 26; decide)) (fun i => eo (38, i) (by show (38 : Nat) ≠ 26; decide)) (fun i => eo (39, i) (by show (39 : Nat) ≠ 26; decide)) (fun i => eo (40, i) (by show (40 : Nat) ≠ 26; decide)) (ms 191 (by decide)) (ms 187 (by decide)) (ms 108 (by decide)) (ms 109 (by decide)) (ms 110 (by decide)) (ms 111 (by decide)) (ms 112 (by decide)) (ms 113 (by decide)) (ms 114 (by decide)) (ms 161 (by decide)) (ms 162 (by decide)) (ms 163 (by decide)) (ms 164 (by decide)) (ms 165 (by decide)) (ms 166 (by decide)) (ms 131 (by decide)) (ms 132 (by decide)) (ms 133 (by decide)) (ms 134 (by decide)) (ms 135 (by decide)) (ms 136 (by decide)) (by rw [m1]) (by rw [m1]) (by rw [m1])
        · have q := hc.c1
          unfold C1 at *
          rw [eo (0, 0) (by decide), m1]
          exact q
        · have q := hc.c2
          unfold C2 at *
          rw [eo (20, 0) (by decide), ms 100 (by decide)]
          exact q
        · have q := hc.c13
          unfold C13 at *
          rw [eo (46, 0) (by decide), eo (47, 0) (by decide), eo (48, 0) (by decide), eo (58, 0) (by decide)]
          exact q
      ·
        refine g_iconst (v := -1) (pc' := 25) dX11_mend_24 rfl (by decide) ?_
        refine g_iret dX11_mend_25 rfl (by decide) (by decide) ?_
        have e : sMend m (nI t) = (-1, m) := by unfold sMend; simp only [nI_clamp (show t < 2 ^ 31 by omega)]; exact cif_f (fun z => (lck_pos hw hx ht).mp z.2.2 c21)
        rw [e]
        exact ⟨rfl, hc, rfl⟩
  ·
    refine g_invV (pc' := 5) (cx_toyAtN hok hc hw w2) dX11_mend_2 rfl rfl ck_12 rfl ml_X11_151 im_X11_toyAt sl_X11_toyAt in_X11 co_X11_toyAt pd_X11_toyAt rfl (by omega) (by decide) ⟨by decide, by decide⟩ (Nat.le_of_ble_eq_true rfl) ?_
    rintro _ _ ⟨rfl, rfl⟩ -
    refine g_astore_n (pc' := 6) dX11_mend_5 rfl (by decide) rfl ?_
    try simp only [List.set]
    refine g_aload_n (pc' := 7) dX11_mend_6 rfl rfl ?_
    refine g_ifnullN (tgt := 24) dX11_mend_7 (by decide) ?_
    refine g_iconst (v := -1) (pc' := 25) dX11_mend_24 rfl (by decide) ?_
    refine g_iret dX11_mend_25 rfl (by decide) (by decide) ?_
    have e : sMend m t0 = (-1, m) := cif_f (fun z => w2 z.1)
    rw [e]
    exact ⟨rfl, hc, rfl⟩
set_option maxRecDepth 4000 in
theorem cx_forgiving {E : En} (hok : EOK E) {h : Hp} {m : St} (hc : Cp m h) (hw : Wf m) (x : Int32) : Call E m_X11_forgiving 1 0 0 [vR TH, vI x] h (fun r h' => r = some (vI (sForgiving m x).1) ∧ Cp (sForgiving m x).2 h' ∧ mo h' = mo h) := by
  have hs := hc.s
  have hKb := hw.k.2
  have hTb := hw.t.2
  have hFb := hw.f.2
  have hRb := hw.r.2
  have hGb := hw.g.2
  have hAb := hw.a.2
  have hTlb := hw.tl.2
  have hNwb := hw.w.2
  refine Call.enter hok (by decide) (Nat.le_of_ble_eq_true rfl) ?_
  show G E m_X11_forgiving 1 0 0 _ h 0 [some (vR TH), some (vI x)] [] h 0 0
  refine g_iload_n (pc' := 1) dX11_forgiving_0 rfl rfl ?_
  refine g_iconstN (n := 0) (pc' := 2) dX11_forgiving_1 rfl ?_
  refine g_aload_n (pc' := 3) dX11_forgiving_2 rfl rfl ?_
  refine g_getS (pc' := 6) (k := 9) (b := (23, 0)) dX11_forgiving_3 rfl rfl ck_12 (by decide) fl_X11_25 rfl hs rfl ?_
  refine g_alen (pc' := 7) (v := nI 4) dX11_forgiving_6 rfl rfl (by decide) rfl ?_
  refine g_iconstN (n := 1) (pc' := 8) dX11_forgiving_7 rfl ?_
  refine g_isubN (pc' := 9) dX11_forgiving_8 rfl (by omega) ?_
  refine g_invS (pc' := 12) (cx_within hok _ _ _) dX11_forgiving_9 rfl ml_X11_99 st_X11_within in_X11 co_X11_within pd_X11_within rfl (by omega) (by decide) ⟨by decide, by decide⟩ (Nat.le_of_ble_eq_true rfl) ?_
  rintro _ _ ⟨rfl, rfl⟩ -
  refine g_ifB_eq (tgt := 24) (pc' := 15) dX11_forgiving_12 rfl (by decide) (fun c12 => ?_) (fun c12 => ?_)
  ·
    refine g_iconst (v := -1) (pc' := 25) dX11_forgiving_24 rfl (by decide) ?_
    refine g_iret dX11_forgiving_25 rfl (by decide) (by decide) ?_
    have e : sForgiving m x = (-1, m) := cif_f (fun z => c12 z)
    rw [e]
    exact ⟨rfl, hc, rfl⟩
  ·
    obtain ⟨w, hw4, rfl⟩ := four_iff.mp c12
    refine g_aload_n (pc' := 16) dX11_forgiving_15 rfl rfl ?_
    refine g_getS (pc' := 19) (k := 9) (b := (23, 0)) dX11_forgiving_16 rfl rfl ck_12 (by decide) fl_X11_25 rfl hs rfl ?_
    refine g_iload_n (pc' := 20) dX11_forgiving_19 rfl rfl ?_
    refine g_ialdN (pc' := 21) (v := nI (fgv m w)) dX11_forgiving_20 rfl rfl (by decide) (by omega) (hc.c11.2 w hw4) ?_
    refine g_goto (tgt := 25) dX11_forgiving_21 (by decide) ?_
    refine g_iret dX11_forgiving_25 rfl (by decide) (by decide) ?_
    have e : sForgiving m (nI w) = (nI (fgv m w), m) := by unfold sForgiving; simp only [nI_clamp (show w < 2 ^ 31 by omega)]; exact cif_t c12
    rw [e]
    exact ⟨rfl, hc, rfl⟩
theorem pkF_inv {m : St} (h0 : 0 ≤ wk3 m 0) : ∀ n, (pkF m (n + 1)).2 = wk3 m (pkF m (n + 1)).1 ∧ (pkF m (n + 1)).1 ≤ n
  | 0 => by
    have q : (pkF m 0).2 < wk3 m 0 := by
      show (-1 : Int32) < _
      rw [Int32.lt_iff_toInt_lt]
      rw [Int32.le_iff_toInt_le] at h0
      have a : ((-1 : Int32)).toInt = -1 := by decide
      have b : ((0 : Int32)).toInt = 0 := by decide
      omega
    rw [pkF_s, cif_t q]
    exact ⟨rfl, Nat.le_refl 0⟩
  | n + 1 => by
    obtain ⟨a, b⟩ := pkF_inv h0 n
    by_cases q : (pkF m (n + 1)).2 < wk3 m (n + 1)
    · rw [pkF_s, cif_t q]
      exact ⟨rfl, Nat.le_refl _⟩
    · rw [pkF_s, cif_f q]
      exact ⟨a, by omega⟩
theorem wk3_sm {m : St} {w : Nat} (hw : w < 53) : sm (fun i => m 187 ((w + i) % 53)) 3 = wk3 m w := by
  have e : (w + 0) % 53 = w := by omega
  show 0 + m 187 ((w + 0) % 53) + m 187 ((w + 1) % 53) + m 187 ((w + 2) % 53) = _
  rw [e, Int32.zero_add]
  rfl
/-- what grows by one a call -/
def Wn (m : St) : Prop := ∀ w, w < 53 → ∃ c : Nat, c ≤ 1000 ∧ m 187 w = nI c
theorem Wn.wk {m : St} (q : Wn m) : 0 ≤ wk3 m 0 := by
  obtain ⟨a, ha, ea⟩ := q 0 (by decide)
  obtain ⟨b, hb, eb⟩ := q 1 (by decide)
  obtain ⟨c, hc, ec⟩ := q 2 (by decide)
  show 0 ≤ m 187 0 + m 187 1 + m 187 2
  rw [ea, eb, ec, nI_add, nI_add]
  exact nI_pos' (by omega)
set_option maxRecDepth 4000 in
theorem lx_begun {E : En} (hok : EOK E) {h h0 : Hp} {m : St} (hc : Cp m h) (hw : Wf m) {w : Nat} (hw3 : w < 53) {d : Nat} (hd : 0 ≤ d) {Q : Option V → Hp → Prop} (hQ : Q (some (vI (wk3 m w))) h) : ∀ n i : Nat, i ≤ 3 → 3 - i = n → G E m_X11_begunInThreeWeeks d 0 0 Q h0 4 [some (vR TH), some (vI (nI w)), some (vI (sm (fun i => m 187 ((w + i) % 53)) i)), some (vI (nI i))] [] (h) 0 0 := by
  have hs := hc.s
  have hKb := hw.k.2
  have hTb := hw.t.2
  have hFb := hw.f.2
  have hRb := hw.r.2
  have hGb := hw.g.2
  have hAb := hw.a.2
  have hTlb := hw.tl.2
  have hNwb := hw.w.2
  intro n
  induction n with
  | zero =>
    intro i h1 h2
    refine g_iload_n (pc' := 5) dX11_begunInThreeWeeks_4 rfl rfl ?_
    refine g_iconstN (n := 3) (pc' := 6) dX11_begunInThreeWeeks_5 rfl ?_
    refine g_icmp_geN (tgt := 29) (pc' := 9) dX11_begunInThreeWeeks_6 rfl (by decide) (by omega) (by omega) (fun c6 => ?_) (fun c6 => ?_)
    ·
      refine g_iload_n (pc' := 30) dX11_begunInThreeWeeks_29 rfl rfl ?_
      refine g_iret dX11_begunInThreeWeeks_30 rfl (by decide) (by decide) ?_
      have e : i = 3 := by omega
      subst e
      rw [← wk3_sm hw3] at hQ
      exact hQ
    · exact absurd c6 (by omega)
  | succ n ih =>
    intro i h1 h2
    refine g_iload_n (pc' := 5) dX11_begunInThreeWeeks_4 rfl rfl ?_
    refine g_iconstN (n := 3) (pc' := 6) dX11_begunInThreeWeeks_5 rfl ?_
    refine g_icmp_geN (tgt := 29) (pc' := 9) dX11_begunInThreeWeeks_6 rfl (by decide) (by omega) (by omega) (fun c6 => ?_) (fun c6 => ?_)
    · exact absurd c6 (by omega)
    ·
      refine g_iload_n (pc' := 10) dX11_begunInThreeWeeks_9 rfl rfl ?_
      refine g_aload_n (pc' := 11) dX11_begunInThreeWeeks_10 rfl rfl ?_
      refine g_getS (pc' := 14) (k := 8) (b := (22, 0)) dX11_begunInThreeWeeks_11 rfl rfl ck_12 (by decide) fl_X11_22 rfl hs rfl ?_
      refine g_iload_n (pc' := 15) dX11_begunInThreeWeeks_14 rfl rfl ?_
      refine g_iload_n (pc' := 16) dX11_begunInThreeWeeks_15 rfl rfl ?_
      refine g_iaddN (pc' := 17) dX11_begunInThreeWeeks_16 rfl ?_
      refine g_bipushN (n := 53) (pc' := 19) dX11_begunInThreeWeeks_17 rfl (by decide) ?_
      refine g_iremN (pc' := 20) dX11_begunInThreeWeeks_19 rfl (by omega) (by omega) (by omega) ?_
      refine g_ialdN (pc' := 21) (v := m 187 ((w + i) % 53)) dX11_begunInThreeWeeks_20 rfl rfl (by decide) (by omega) (hc.c4 _ (by omega)) ?_
      refine g_iadd (pc' := 22) dX11_begunInThreeWeeks_21 rfl ?_
      refine g_istore_n (pc' := 23) dX11_begunInThreeWeeks_22 rfl (by decide) rfl ?_
      try simp only [List.set]
      refine g_iincN (k := 1) (pc' := 26) dX11_begunInThreeWeeks_23 rfl rfl (by decide) rfl ?_
      try simp only [List.set]
      refine g_goto (tgt := 4) dX11_begunInThreeWeeks_26 (by decide) ?_
      exact ih (i + 1) (by omega) (by omega)
set_option maxRecDepth 4000 in
theorem cx_begun {E : En} (hok : EOK E) {h : Hp} {m : St} (hc : Cp m h) (hw : Wf m) {w : Nat} (hw3 : w < 53) : Call E m_X11_begunInThreeWeeks 0 0 0 [vR TH, vI (nI w)] h (fun r0 h' => r0 = some (vI (wk3 m w)) ∧ h = h') := by
  have hs := hc.s
  have hKb := hw.k.2
  have hTb := hw.t.2
  have hFb := hw.f.2
  have hRb := hw.r.2
  have hGb := hw.g.2
  have hAb := hw.a.2
  have hTlb := hw.tl.2
  have hNwb := hw.w.2
  refine Call.enter hok (by decide) (Nat.le_of_ble_eq_true rfl) ?_
  show G E m_X11_begunInThreeWeeks 0 0 0 _ h 0 [some (vR TH), some (vI (nI w)), none, none] [] h 0 0
  refine g_iconst (v := 0) (pc' := 1) dX11_begunInThreeWeeks_0 rfl (by decide) ?_
  refine g_istore_n (pc' := 2) dX11_begunInThreeWeeks_1 rfl (by decide) rfl ?_
  try simp only [List.set]
  refine g_iconstN (n := 0) (pc' := 3) dX11_begunInThreeWeeks_2 rfl ?_
  refine g_istore_n (pc' := 4) dX11_begunInThreeWeeks_3 rfl (by decide) rfl ?_
  try simp only [List.set]
  exact lx_begun hok hc hw hw3 (Nat.le_refl _) ⟨rfl, rfl⟩ _ 0 (Nat.zero_le _) rfl
set_option maxRecDepth 4000 in
theorem lx_peak {E : En} (hok : EOK E) {h h0 : Hp} {m : St} (hc : Cp m h) (hw : Wf m) (hn : Wn m) (x : Int32) {d : Nat} (hd : 1 ≤ d) {Q : Option V → Hp → Prop} (hQ : (x = 0 → Q (some (vI (nI (pkF m 53).1))) h) ∧ (¬ x = 0 → Q (some (vI (wk3 m (pkF m 53).1))) h)) : ∀ n w : Nat, w ≤ 53 → 53 - w = n → (1 ≤ w) → G E m_X11_peak d 0 0 Q h0 15 [some (vR TH), some (vI x), some (vI (nI (pkF m w).1)), some (vI (nI w))] [] (h) 0 0 := by
  have hs := hc.s
  have hKb := hw.k.2
  have hTb := hw.t.2
  have hFb := hw.f.2
  have hRb := hw.r.2
  have hGb := hw.g.2
  have hAb := hw.a.2
  have hTlb := hw.tl.2
  have hNwb := hw.w.2
  intro n
  induction n with
  | zero =>
    intro w h1 h2 hi
    have hv : (pkF m w).2 = wk3 m (pkF m w).1 ∧ (pkF m w).1 ≤ w - 1 := by
      have q := pkF_inv hn.wk (w - 1)
      rw [show w - 1 + 1 = w by omega] at q
      exact q
    refine g_iload_n (pc' := 16) dX11_peak_15 rfl rfl ?_
    refine g_bipushN (n := 53) (pc' := 18) dX11_peak_16 rfl (by decide) ?_
    refine g_icmp_geN (tgt := 42) (pc' := 21) dX11_peak_18 rfl (by decide) (by omega) (by omega) (fun c18 => ?_) (fun c18 => ?_)
    ·
      have e : w = 53 := by omega
      subst e
      refine g_iload_n (pc' := 43) dX11_peak_42 rfl rfl ?_
      refine g_if_ne (tgt := 50) (pc' := 46) dX11_peak_43 rfl (by decide) (fun c43 => ?_) (fun c43 => ?_)
      ·
        refine g_aload_n (pc' := 51) dX11_peak_50 rfl rfl ?_
        refine g_iload_n (pc' := 52) dX11_peak_51 rfl rfl ?_
        refine g_invV (pc' := 55) (cx_begun hok hc hw (w := (pkF m 53).1) (by omega)) dX11_peak_52 rfl rfl ck_12 rfl ml_X11_413 im_X11_begunInThreeWeeks sl_X11_begunInThreeWeeks in_X11 co_X11_begunInThreeWeeks pd_X11_begunInThreeWeeks rfl (by omega) (by decide) ⟨by decide, by decide⟩ (Nat.le_of_ble_eq_true rfl) ?_
        rintro _ _ ⟨rfl, rfl⟩ -
        refine g_iret dX11_peak_55 rfl (by decide) (by decide) ?_
        exact hQ.2 c43
      ·
        refine g_iload_n (pc' := 47) dX11_peak_46 rfl rfl ?_
        refine g_goto (tgt := 55) dX11_peak_47 (by decide) ?_
        refine g_iret dX11_peak_55 rfl (by decide) (by decide) ?_
        exact hQ.1 c43
    · exact absurd c18 (by omega)
  | succ n ih =>
    intro w h1 h2 hi
    have hv : (pkF m w).2 = wk3 m (pkF m w).1 ∧ (pkF m w).1 ≤ w - 1 := by
      have q := pkF_inv hn.wk (w - 1)
      rw [show w - 1 + 1 = w by omega] at q
      exact q
    refine g_iload_n (pc' := 16) dX11_peak_15 rfl rfl ?_
    refine g_bipushN (n := 53) (pc' := 18) dX11_peak_16 rfl (by decide) ?_
    refine g_icmp_geN (tgt := 42) (pc' := 21) dX11_peak_18 rfl (by decide) (by omega) (by omega) (fun c18 => ?_) (fun c18 => ?_)
    · exact absurd c18 (by omega)
    ·
      refine g_aload_n (pc' := 22) dX11_peak_21 rfl rfl ?_
      refine g_iload_n (pc' := 23) dX11_peak_22 rfl rfl ?_
      refine g_invV (pc' := 26) (cx_begun hok hc hw (w := w) (by omega)) dX11_peak_23 rfl rfl ck_12 rfl ml_X11_413 im_X11_begunInThreeWeeks sl_X11_begunInThreeWeeks in_X11 co_X11_begunInThreeWeeks pd_X11_begunInThreeWeeks rfl (by omega) (by decide) ⟨by decide, by decide⟩ (Nat.le_of_ble_eq_true rfl) ?_
      rintro _ _ ⟨rfl, rfl⟩ -
      refine g_aload_n (pc' := 27) dX11_peak_26 rfl rfl ?_
      refine g_iload_n (pc' := 28) dX11_peak_27 rfl rfl ?_
      refine g_invV (pc' := 31) (cx_begun hok hc hw (w := (pkF m w).1) (by omega)) dX11_peak_28 rfl rfl ck_12 rfl ml_X11_413 im_X11_begunInThreeWeeks sl_X11_begunInThreeWeeks in_X11 co_X11_begunInThreeWeeks pd_X11_begunInThreeWeeks rfl (by omega) (by decide) ⟨by decide, by decide⟩ (Nat.le_of_ble_eq_true rfl) ?_
      rintro _ _ ⟨rfl, rfl⟩ -
      refine g_icmp_le (tgt := 36) (pc' := 34) dX11_peak_31 rfl (by decide) (fun c31 => ?_) (fun c31 => ?_)
      ·
        refine g_iincN (k := 1) (pc' := 39) dX11_peak_36 rfl rfl (by decide) rfl ?_
        try simp only [List.set]
        refine g_goto (tgt := 15) dX11_peak_39 (by decide) ?_
        have q := ih (w + 1) (by omega) (by omega) (by omega)
        rw [pkF_s, cif_f (show ¬ (pkF m w).2 < wk3 m w by rw [hv.1]; exact Int32.not_lt.mpr c31)] at q
        exact q
      ·
        refine g_iload_n (pc' := 35) dX11_peak_34 rfl rfl ?_
        refine g_istore_n (pc' := 36) dX11_peak_35 rfl (by decide) rfl ?_
        try simp only [List.set]
        refine g_iincN (k := 1) (pc' := 39) dX11_peak_36 rfl rfl (by decide) rfl ?_
        try simp only [List.set]
        refine g_goto (tgt := 15) dX11_peak_39 (by decide) ?_
        have q := ih (w + 1) (by omega) (by omega) (by omega)
        rw [pkF_s, cif_t (show (pkF m w).2 < wk3 m w by rw [hv.1]; exact Int32.not_le.mp c31)] at q
        exact q
set_option maxRecDepth 4000 in
theorem cx_peak {E : En} (hok : EOK E) {h : Hp} {m : St} (hc : Cp m h) (hw : Wf m) (x : Int32) (hn : Wn m) : Call E m_X11_peak 1 0 0 [vR TH, vI x] h (fun r h' => r = some (vI (sPeak m x).1) ∧ Cp (sPeak m x).2 h' ∧ mo h' = mo h) := by
  have hs := hc.s
  have hKb := hw.k.2
  have hTb := hw.t.2
  have hFb := hw.f.2
  have hRb := hw.r.2
  have hGb := hw.g.2
  have hAb := hw.a.2
  have hTlb := hw.tl.2
  have hNwb := hw.w.2
  refine Call.enter hok (by decide) (Nat.le_of_ble_eq_true rfl) ?_
  show G E m_X11_peak 1 0 0 _ h 0 [some (vR TH), some (vI x), none, none] [] h 0 0
  refine g_iload_n (pc' := 1) dX11_peak_0 rfl rfl ?_
  refine g_iconstN (n := 0) (pc' := 2) dX11_peak_1 rfl ?_
  refine g_iconstN (n := 1) (pc' := 3) dX11_peak_2 rfl ?_
  refine g_invS (pc' := 6) (cx_within hok _ _ _) dX11_peak_3 rfl ml_X11_99 st_X11_within in_X11 co_X11_within pd_X11_within rfl (by omega) (by decide) ⟨by decide, by decide⟩ (Nat.le_of_ble_eq_true rfl) ?_
  rintro _ _ ⟨rfl, rfl⟩ -
  refine g_ifB_ne (tgt := 11) (pc' := 9) dX11_peak_6 rfl (by decide) (fun c6 => ?_) (fun c6 => ?_)
  ·
    refine g_iconstN (n := 0) (pc' := 12) dX11_peak_11 rfl ?_
    refine g_istore_n (pc' := 13) dX11_peak_12 rfl (by decide) rfl ?_
    try simp only [List.set]
    refine g_iconstN (n := 1) (pc' := 14) dX11_peak_13 rfl ?_
    refine g_istore_n (pc' := 15) dX11_peak_14 rfl (by decide) rfl ?_
    try simp only [List.set]
    have e : sPeak m x = (cif (x = 0) (nI (pkF m 53).1) (pkF m 53).2, m) := cif_t c6
    have hv := (pkF_inv hn.wk 52).1
    have e1 : pkF m 1 = (0, wk3 m 0) := by
      have q := (pkF_inv hn.wk 0)
      exact Prod.ext (Nat.le_zero.mp q.2) (by rw [q.1, Nat.le_zero.mp q.2])
    have e10 : (0 : Nat) = (pkF m 1).1 := by rw [e1]
    rw [show nI 0 = nI (pkF m 1).1 by rw [e1]]
    refine lx_peak hok hc hw hn x (Nat.le_refl _) ⟨fun q => ?_, fun q => ?_⟩ _ 1 (by decide) rfl (by decide)
    · rw [e, cif_t q]
      exact ⟨rfl, hc, rfl⟩
    · rw [e, cif_f q, hv]
      exact ⟨rfl, hc, rfl⟩
  ·
    refine g_iconst (v := -1) (pc' := 10) dX11_peak_9 rfl (by decide) ?_
    refine g_iret dX11_peak_10 rfl (by decide) (by decide) ?_
    have e : sPeak m x = (-1, m) := cif_f (fun z => c6 z)
    rw [e]
    exact ⟨rfl, hc, rfl⟩
