theorem C6_place {m : St} {h : Hp} (c : C6 m h) (t : Nat) (x : Int32) (hx : m 118 t = 0 ∨ x ≠ 0) : C6 (stU m 118 t x) (wI h (3, t) 7 x) := by
  refine ⟨c.1, fun u hu => ?_, c.2.2⟩
  have a := c.2.1 u hu
  refine ⟨a.1, ?_, a.2.2⟩
  have q := a.2.1
  by_cases e : u = t
  · subst e
    simp_all [wI_at, stU_at]
    rcases hx with hx | hx
    · exact fun _ => q.2.2.2.2.2.2.1 hx
    · exact fun z => absurd z hx
  · simp_all [wI_at, stU_at]
theorem C7_t {m : St} {h : Hp} (c : C7 m h) (s t i j : Nat) (x z : Int32) (hj : j ≠ 6) (h1 : s ≠ 1) (h2 : s ≠ 167) (h3 : s ≠ 168) (h4 : s ≠ 169) : C7 (stU m s i x) (wI h (3, t) j z) := by
  have e1 : stU m s i x 1 = m 1 := if_neg (Ne.symm h1)
  have e2 : stU m s i x 167 = m 167 := if_neg (Ne.symm h2)
  have e3 : stU m s i x 168 = m 168 := if_neg (Ne.symm h3)
  have e4 : stU m s i x 169 = m 169 := if_neg (Ne.symm h4)
  unfold C7 nT nGf at *
  rw [e1, e2, e3, e4]
  intro u hu
  obtain ⟨k, a1, a2, a3⟩ := c u hu
  refine ⟨k, ?_, a2, fun P => ?_⟩
  · rw [wI_at, if_neg (fun q => hj q.2.symm)]
    exact a1
  · have q := a3 P
    exact q
theorem C6_dirty {m : St} {h : Hp} (c : C6 m h) (t : Nat) (x : Int32) : C6 (stU m 124 t x) (wI h (3, t) 14 x) := by
  refine ⟨c.1, fun u hu => ?_, c.2.2⟩
  have a := c.2.1 u hu
  refine ⟨a.1, ?_, a.2.2⟩
  have q := a.2.1
  by_cases e : u = t
  · subst e
    simp_all [wI_at, stU_at]
  · simp_all [wI_at, stU_at]
set_option maxRecDepth 4000 in
theorem cx_cull {E : En} (hok : EOK E) {h : Hp} {m : St} (hc : Cp m h) (hw : Wf m) (x : Int32) : Call E m_X11_cull 4 0 0 [vR TH, vI x] h (fun r h' => r = some (vI (sCull m x).1) ∧ Cp (sCull m x).2 h' ∧ mo h' = mo h) := by
  have hs := hc.s
  have hKb := hw.k.2
  have hTb := hw.t.2
  have hFb := hw.f.2
  have hRb := hw.r.2
  have hGb := hw.g.2
  have hAb := hw.a.2
  have hTlb := hw.tl.2
  have hNwb := hw.w.2
  refine Call.enter hok (by decide) (Nat.le_of_ble_eq_true rfl) ?_
  show G E m_X11_cull 4 0 0 _ h 0 [some (vR TH), some (vI x), none] [] h 0 0
  refine g_aload_n (pc' := 1) dX11_cull_0 rfl rfl ?_
  refine g_iload_n (pc' := 2) dX11_cull_1 rfl rfl ?_
  rcases Classical.em (∃ j : Nat, j < nT m ∧ x = nI j) with w2 | w2
  ·
    have k2 := w2
    obtain ⟨t, ht, rfl⟩ := k2
    refine g_invV (pc' := 5) (cx_toyAt hok hc hw ht) dX11_cull_2 rfl rfl ck_12 rfl ml_X11_151 im_X11_toyAt sl_X11_toyAt in_X11 co_X11_toyAt pd_X11_toyAt rfl (by omega) (by decide) ⟨by decide, by decide⟩ (Nat.le_of_ble_eq_true rfl) ?_
    rintro _ _ ⟨rfl, rfl⟩ -
    refine g_astore_n (pc' := 6) dX11_cull_5 rfl (by decide) rfl ?_
    try simp only [List.set]
    refine g_aload_n (pc' := 7) dX11_cull_6 rfl rfl ?_
    refine g_ifnull (pc' := 10) dX11_cull_7 rfl ?_
    refine g_aload_n (pc' := 11) dX11_cull_10 rfl rfl ?_
    refine g_getIv (v := m 118 (t)) (pc' := 14) (k := 7) dX11_cull_11 rfl rfl ck_9 (by decide) fl_X11_264 rfl (hc.t7 (t := t) (by omega)) ?_
    refine g_if_eq (tgt := 19) (pc' := 17) dX11_cull_14 rfl (by decide) (fun c14 => ?_) (fun c14 => ?_)
    ·
      refine g_aload_n (pc' := 20) dX11_cull_19 rfl rfl ?_
      refine g_iconstN (n := 3) (pc' := 21) dX11_cull_20 rfl ?_
      refine g_putI (pc' := 24) (k := 7) dX11_cull_21 rfl rfl ck_9 (by decide) fl_X11_264 rfl rfl rfl rfl ?_
      refine g_iconstN (n := 1) (pc' := 25) dX11_cull_24 rfl ?_
      refine g_zret dX11_cull_25 rfl (by rfl) (by decide) (by decide) ?_
      have e : sCull m (nI t) = (1, stU m 118 t 3) := by unfold sCull; simp only [nI_clamp (show t < 2 ^ 31 by omega)]; exact cif_t ⟨by assumption, by assumption⟩
      rw [e]
      exact ⟨rfl, ⟨hc.s, hc.e, hc.c1, hc.c2, hc.c3, hc.c4, hc.c5, C6_place hc.c6 _ _ (Or.inr (by decide)), C7_t hc.c7 _ _ _ _ _ _ (by decide) (by decide) (by decide) (by decide) (by decide), hc.c8, hc.c9, hc.c10, C11.same hc.c11 rfl rfl rfl rfl rfl rfl (fun _ => rfl) rfl, hc.c12, hc.c13⟩, mo_off rfl⟩
    ·
      refine g_iconstN (n := 0) (pc' := 18) dX11_cull_17 rfl ?_
      refine g_zret dX11_cull_18 rfl (by rfl) (by decide) (by decide) ?_
      have e : sCull m (nI t) = (0, m) := by unfold sCull; simp only [nI_clamp (show t < 2 ^ 31 by omega)]; exact cif_f (by rintro ⟨z0, z1⟩; contradiction)
      rw [e]
      exact ⟨rfl, hc, rfl⟩
  ·
    refine g_invV (pc' := 5) (cx_toyAtN hok hc hw w2) dX11_cull_2 rfl rfl ck_12 rfl ml_X11_151 im_X11_toyAt sl_X11_toyAt in_X11 co_X11_toyAt pd_X11_toyAt rfl (by omega) (by decide) ⟨by decide, by decide⟩ (Nat.le_of_ble_eq_true rfl) ?_
    rintro _ _ ⟨rfl, rfl⟩ -
    refine g_astore_n (pc' := 6) dX11_cull_5 rfl (by decide) rfl ?_
    try simp only [List.set]
    refine g_aload_n (pc' := 7) dX11_cull_6 rfl rfl ?_
    refine g_ifnullN (tgt := 17) dX11_cull_7 (by decide) ?_
    refine g_iconstN (n := 0) (pc' := 18) dX11_cull_17 rfl ?_
    refine g_zret dX11_cull_18 rfl (by rfl) (by decide) (by decide) ?_
    have e : sCull m x = (0, m) := by exact cif_f (by rintro ⟨z0, z1⟩; contradiction)
    rw [e]
    exact ⟨rfl, hc, rfl⟩
set_option maxRecDepth 4000 in
theorem cx_wash {E : En} (hok : EOK E) {h : Hp} {m : St} (hc : Cp m h) (hw : Wf m) (x : Int32) : Call E m_X11_wash 4 0 0 [vR TH, vI x] h (fun r h' => r = some (vI (sWash m x).1) ∧ Cp (sWash m x).2 h' ∧ mo h' = mo h) := by
  have hs := hc.s
  have hKb := hw.k.2
  have hTb := hw.t.2
  have hFb := hw.f.2
  have hRb := hw.r.2
  have hGb := hw.g.2
  have hAb := hw.a.2
  have hTlb := hw.tl.2
  have hNwb := hw.w.2
  refine Call.enter hok (by decide) (Nat.le_of_ble_eq_true rfl) ?_
  show G E m_X11_wash 4 0 0 _ h 0 [some (vR TH), some (vI x), none] [] h 0 0
  refine g_aload_n (pc' := 1) dX11_wash_0 rfl rfl ?_
  refine g_iload_n (pc' := 2) dX11_wash_1 rfl rfl ?_
  rcases Classical.em (∃ j : Nat, j < nT m ∧ x = nI j) with w2 | w2
  ·
    have k2 := w2
    obtain ⟨t, ht, rfl⟩ := k2
    refine g_invV (pc' := 5) (cx_toyAt hok hc hw ht) dX11_wash_2 rfl rfl ck_12 rfl ml_X11_151 im_X11_toyAt sl_X11_toyAt in_X11 co_X11_toyAt pd_X11_toyAt rfl (by omega) (by decide) ⟨by decide, by decide⟩ (Nat.le_of_ble_eq_true rfl) ?_
    rintro _ _ ⟨rfl, rfl⟩ -
    refine g_astore_n (pc' := 6) dX11_wash_5 rfl (by decide) rfl ?_
    try simp only [List.set]
    refine g_aload_n (pc' := 7) dX11_wash_6 rfl rfl ?_
    refine g_ifnull (pc' := 10) dX11_wash_7 rfl ?_
    refine g_aload_n (pc' := 11) dX11_wash_10 rfl rfl ?_
    refine g_getIv (v := m 124 (t)) (pc' := 14) (k := 14) dX11_wash_11 rfl rfl ck_9 (by decide) fl_X11_260 rfl (hc.t14 (t := t) (by omega)) ?_
    refine g_if_ne (tgt := 19) (pc' := 17) dX11_wash_14 rfl (by decide) (fun c14 => ?_) (fun c14 => ?_)
    ·
      refine g_aload_n (pc' := 20) dX11_wash_19 rfl rfl ?_
      refine g_iconstN (n := 0) (pc' := 21) dX11_wash_20 rfl ?_
      refine g_putI (pc' := 24) (k := 14) dX11_wash_21 rfl rfl ck_9 (by decide) fl_X11_260 rfl rfl (by rfl) (by rfl) ?_
      refine g_iconstN (n := 1) (pc' := 25) dX11_wash_24 rfl ?_
      refine g_zret dX11_wash_25 rfl (by rfl) (by decide) (by decide) ?_
      have e : sWash m (nI t) = (1, stU m 124 t 0) := by unfold sWash; simp only [nI_clamp (show t < 2 ^ 31 by omega)]; exact cif_t ⟨by assumption, by assumption⟩
      rw [e]
      exact ⟨rfl, ⟨hc.s, hc.e, hc.c1, hc.c2, hc.c3, hc.c4, hc.c5, C6_dirty hc.c6 _ _, C7_t hc.c7 _ _ _ _ _ _ (by decide) (by decide) (by decide) (by decide) (by decide), hc.c8, hc.c9, hc.c10, C11.same hc.c11 rfl rfl rfl rfl rfl rfl (fun _ => rfl) rfl, hc.c12, hc.c13⟩, mo_off rfl⟩
    ·
      refine g_iconstN (n := 0) (pc' := 18) dX11_wash_17 rfl ?_
      refine g_zret dX11_wash_18 rfl (by rfl) (by decide) (by decide) ?_
      have e : sWash m (nI t) = (0, m) := by unfold sWash; simp only [nI_clamp (show t < 2 ^ 31 by omega)]; exact cif_f (by rintro ⟨z0, z1⟩; contradiction)
      rw [e]
      exact ⟨rfl, hc, rfl⟩
  ·
    refine g_invV (pc' := 5) (cx_toyAtN hok hc hw w2) dX11_wash_2 rfl rfl ck_12 rfl ml_X11_151 im_X11_toyAt sl_X11_toyAt in_X11 co_X11_toyAt pd_X11_toyAt rfl (by omega) (by decide) ⟨by decide, by decide⟩ (Nat.le_of_ble_eq_true rfl) ?_
    rintro _ _ ⟨rfl, rfl⟩ -
    refine g_astore_n (pc' := 6) dX11_wash_5 rfl (by decide) rfl ?_
    try simp only [List.set]
    refine g_aload_n (pc' := 7) dX11_wash_6 rfl rfl ?_
    refine g_ifnullN (tgt := 17) dX11_wash_7 (by decide) ?_
    refine g_iconstN (n := 0) (pc' := 18) dX11_wash_17 rfl ?_
    refine g_zret dX11_wash_18 rfl (by rfl) (by decide) (by decide) ?_
    have e : sWash m x = (0, m) := by exact cif_f (by rintro ⟨z0, z1⟩; contradiction)
    rw [e]
    exact ⟨rfl, hc, rfl⟩
theorem C8_owed {m : St} {h : Hp} (c : C8 m h) (f : Nat) (x : Int32) : C8 (stU m 129 f x) (wI h (4, f) 5 x) := by
  refine ⟨c.1, fun u hu => ?_, c.2.2⟩
  have a := c.2.1 u hu
  refine ⟨?_, a.2⟩
  have q := a.1
  by_cases e : u = f
  · subst e
    simp_all [wI_at, stU_at]
  · simp_all [wI_at, stU_at]
theorem C8_since {m : St} {h : Hp} (c : C8 m h) {f k : Nat} (hk : k < 8) (x : Int32) : C8 (stU m 186 (8 * f + k) x) (wI h (29, f) k x) := by
  refine ⟨c.1, fun u hu => ?_, c.2.2⟩
  have a := c.2.1 u hu
  refine ⟨a.1, fun j hj => ?_⟩
  rw [wI_at, stU_at]
  by_cases e : u = f ∧ j = k
  · obtain ⟨rfl, rfl⟩ := e
    rw [if_pos ⟨rfl, rfl⟩, if_pos ⟨rfl, rfl⟩]
  · rw [if_neg (fun z => e ⟨by injection z.1, z.2⟩), if_neg (fun z => e (by omega))]
    exact a.2 j hj
theorem C9_told {m : St} {h : Hp} (c : C9 m h) {r f : Nat} (hf : f < 10) (x : Int32) : C9 (stU m 166 (10 * r + f) x) (wI h (30, r) f x) := by
  refine ⟨c.1, fun u hu => ?_, c.2.2⟩
  have a := c.2.1 u hu
  refine ⟨a.1, fun j hj => ?_⟩
  rw [wI_at, stU_at]
  by_cases e : u = r ∧ j = f
  · obtain ⟨rfl, rfl⟩ := e
    rw [if_pos ⟨rfl, rfl⟩, if_pos ⟨rfl, rfl⟩]
  · rw [if_neg (fun z => e ⟨by injection z.1, z.2⟩), if_neg (fun z => e (by omega))]
    exact a.2 j hj
theorem C4_w {m : St} {h : Hp} (c : C4 m h) (i : Nat) (x : Int32) : C4 (stU m 187 i x) (wI h (22, 0) i x) := fun j hj => by
  rw [wI_at, stU_at]
  by_cases e : j = i
  · rw [if_pos ⟨rfl, e⟩, if_pos ⟨rfl, e⟩]
  · rw [if_neg (fun z => e z.2), if_neg (fun z => e z.2)]
    exact c j hj
set_option maxRecDepth 4000 in
theorem cx_owes {E : En} (hok : EOK E) {h : Hp} {m : St} (hc : Cp m h) (hw : Wf m) (x : Int32) : Call E m_X11_owes 4 0 0 [vR TH, vI x] h (fun r h' => r = some (vI (sOwes m x).1) ∧ Cp (sOwes m x).2 h' ∧ mo h' = mo h) := by
  have hs := hc.s
  have hKb := hw.k.2
  have hTb := hw.t.2
  have hFb := hw.f.2
  have hRb := hw.r.2
  have hGb := hw.g.2
  have hAb := hw.a.2
  have hTlb := hw.tl.2
  have hNwb := hw.w.2
  refine Call.enter hok (by decide) (Nat.le_of_ble_eq_true rfl) ?_
  show G E m_X11_owes 4 0 0 _ h 0 [some (vR TH), some (vI x), none] [] h 0 0
  refine g_aload_n (pc' := 1) dX11_owes_0 rfl rfl ?_
  refine g_iload_n (pc' := 2) dX11_owes_1 rfl rfl ?_
  rcases Classical.em (∃ j : Nat, j < nF m ∧ x = nI j) with w2 | w2
  ·
    have k2 := w2
    obtain ⟨f, hf, rfl⟩ := k2
    refine g_invV (pc' := 5) (cx_familyAt hok hc hw hf) dX11_owes_2 rfl rfl ck_12 rfl ml_X11_192 im_X11_familyAt sl_X11_familyAt in_X11 co_X11_familyAt pd_X11_familyAt rfl (by omega) (by decide) ⟨by decide, by decide⟩ (Nat.le_of_ble_eq_true rfl) ?_
    rintro _ _ ⟨rfl, rfl⟩ -
    refine g_astore_n (pc' := 6) dX11_owes_5 rfl (by decide) rfl ?_
    try simp only [List.set]
    refine g_aload_n (pc' := 7) dX11_owes_6 rfl rfl ?_
    refine g_ifnonnull (tgt := 14) dX11_owes_7 (by decide) ?_
    refine g_aload_n (pc' := 15) dX11_owes_14 rfl rfl ?_
    refine g_getIv (v := m 129 (f)) (pc' := 18) (k := 5) dX11_owes_15 rfl rfl ck_2 (by decide) fl_X11_257 rfl (hc.f5 (f := f) (by omega)) ?_
    refine g_iret dX11_owes_18 rfl (by decide) (by decide) ?_
    have e : sOwes m (nI f) = (m 129 f, m) := by unfold sOwes; simp only [nI_clamp (show f < 2 ^ 31 by omega)]; exact cif_t (by assumption)
    rw [e]
    exact ⟨rfl, hc, rfl⟩
  ·
    refine g_invV (pc' := 5) (cx_familyAtN hok hc hw w2) dX11_owes_2 rfl rfl ck_12 rfl ml_X11_192 im_X11_familyAt sl_X11_familyAt in_X11 co_X11_familyAt pd_X11_familyAt rfl (by omega) (by decide) ⟨by decide, by decide⟩ (Nat.le_of_ble_eq_true rfl) ?_
    rintro _ _ ⟨rfl, rfl⟩ -
    refine g_astore_n (pc' := 6) dX11_owes_5 rfl (by decide) rfl ?_
    try simp only [List.set]
    refine g_aload_n (pc' := 7) dX11_owes_6 rfl rfl ?_
    refine g_ifnonnullN (pc' := 10) dX11_owes_7 rfl ?_
    refine g_iconst (v := -1) (pc' := 11) dX11_owes_10 rfl (by decide) ?_
    refine g_goto (tgt := 18) dX11_owes_11 (by decide) ?_
    refine g_iret dX11_owes_18 rfl (by decide) (by decide) ?_
    have e : sOwes m x = (-1, m) := by exact cif_f (by rintro z; contradiction)
    rw [e]
    exact ⟨rfl, hc, rfl⟩
set_option maxRecDepth 4000 in
theorem cx_pays {E : En} (hok : EOK E) {h : Hp} {m : St} (hc : Cp m h) (hw : Wf m) (x : Int32) (n : Int32) : Call E m_X11_pays 4 0 0 [vR TH, vI x, vI n] h (fun r h' => r = some (vI (sPays m x n).1) ∧ Cp (sPays m x n).2 h' ∧ mo h' = mo h) := by
  have hs := hc.s
  have hKb := hw.k.2
  have hTb := hw.t.2
  have hFb := hw.f.2
  have hRb := hw.r.2
  have hGb := hw.g.2
  have hAb := hw.a.2
  have hTlb := hw.tl.2
  have hNwb := hw.w.2
  refine Call.enter hok (by decide) (Nat.le_of_ble_eq_true rfl) ?_
  show G E m_X11_pays 4 0 0 _ h 0 [some (vR TH), some (vI x), some (vI n), none] [] h 0 0
  refine g_aload_n (pc' := 1) dX11_pays_0 rfl rfl ?_
  refine g_iload_n (pc' := 2) dX11_pays_1 rfl rfl ?_
  rcases Classical.em (∃ j : Nat, j < nF m ∧ x = nI j) with w2 | w2
  ·
    have k2 := w2
    obtain ⟨f, hf, rfl⟩ := k2
    refine g_invV (pc' := 5) (cx_familyAt hok hc hw hf) dX11_pays_2 rfl rfl ck_12 rfl ml_X11_192 im_X11_familyAt sl_X11_familyAt in_X11 co_X11_familyAt pd_X11_familyAt rfl (by omega) (by decide) ⟨by decide, by decide⟩ (Nat.le_of_ble_eq_true rfl) ?_
    rintro _ _ ⟨rfl, rfl⟩ -
    refine g_astore_n (pc' := 6) dX11_pays_5 rfl (by decide) rfl ?_
    try simp only [List.set]
    refine g_aload_n (pc' := 7) dX11_pays_6 rfl rfl ?_
    refine g_ifnull (pc' := 10) dX11_pays_7 rfl ?_
    refine g_iload_n (pc' := 11) dX11_pays_10 rfl rfl ?_
    refine g_iconstN (n := 1) (pc' := 12) dX11_pays_11 rfl ?_
    refine g_icmp_lt (tgt := 23) (pc' := 15) dX11_pays_12 rfl (by decide) (fun c12 => ?_) (fun c12 => ?_)
    ·
      refine g_iconst (v := -1) (pc' := 24) dX11_pays_23 rfl (by decide) ?_
      refine g_iret dX11_pays_24 rfl (by decide) (by decide) ?_
      have e : sPays m (nI f) n = (-1, m) := by unfold sPays; simp only [nI_clamp (show f < 2 ^ 31 by omega)]; exact cif_f (fun z => absurd z.2.1 (Int32.not_le.mpr c12))
      rw [e]
      exact ⟨rfl, hc, rfl⟩
    ·
      refine g_iload_n (pc' := 16) dX11_pays_15 rfl rfl ?_
      refine g_aload_n (pc' := 17) dX11_pays_16 rfl rfl ?_
      refine g_getIv (v := m 129 (f)) (pc' := 20) (k := 5) dX11_pays_17 rfl rfl ck_2 (by decide) fl_X11_257 rfl (hc.f5 (f := f) (by omega)) ?_
      refine g_icmp_le (tgt := 25) (pc' := 23) dX11_pays_20 rfl (by decide) (fun c20 => ?_) (fun c20 => ?_)
      ·
        refine g_aload_n (pc' := 26) dX11_pays_25 rfl rfl ?_
        refine g_dup (pc' := 27) dX11_pays_26 rfl rfl ?_
        refine g_getIv (v := m 129 (f)) (pc' := 30) (k := 5) dX11_pays_27 rfl rfl ck_2 (by decide) fl_X11_257 rfl (hc.f5 (f := f) (by omega)) ?_
        refine g_iload_n (pc' := 31) dX11_pays_30 rfl rfl ?_
        refine g_isub (pc' := 32) dX11_pays_31 rfl ?_
        refine g_putI (pc' := 35) (k := 5) dX11_pays_32 rfl rfl ck_2 (by decide) fl_X11_257 rfl rfl rfl rfl ?_
        refine g_aload_n (pc' := 36) dX11_pays_35 rfl rfl ?_
        refine g_getI (pc' := 39) (k := 5) dX11_pays_36 rfl rfl ck_2 (by decide) fl_X11_257 rfl ?_
        refine g_iret dX11_pays_39 rfl (by decide) (by decide) ?_
        have e : sPays m (nI f) n = (m 129 f - n, stU m 129 f (m 129 f - n)) := by unfold sPays; simp only [nI_clamp (show f < 2 ^ 31 by omega)]; exact cif_t ⟨w2, Int32.not_lt.mp c12, c20⟩
        rw [e]
        refine ⟨?_, ⟨hc.s, hc.e, hc.c1, hc.c2, hc.c3, hc.c4, hc.c5, hc.c6, hc.c7, C8_owed hc.c8 _ _, hc.c9, hc.c10, C11.same hc.c11 rfl rfl rfl rfl rfl rfl (fun _ => wI_j (by decide)) rfl, hc.c12, hc.c13⟩, mo_off rfl⟩
        rw [wI_same]
      ·
        refine g_iconst (v := -1) (pc' := 24) dX11_pays_23 rfl (by decide) ?_
        refine g_iret dX11_pays_24 rfl (by decide) (by decide) ?_
        have e : sPays m (nI f) n = (-1, m) := by unfold sPays; simp only [nI_clamp (show f < 2 ^ 31 by omega)]; exact cif_f (fun z => c20 z.2.2)
        rw [e]
        exact ⟨rfl, hc, rfl⟩
  ·
    refine g_invV (pc' := 5) (cx_familyAtN hok hc hw w2) dX11_pays_2 rfl rfl ck_12 rfl ml_X11_192 im_X11_familyAt sl_X11_familyAt in_X11 co_X11_familyAt pd_X11_familyAt rfl (by omega) (by decide) ⟨by decide, by decide⟩ (Nat.le_of_ble_eq_true rfl) ?_
    rintro _ _ ⟨rfl, rfl⟩ -
    refine g_astore_n (pc' := 6) dX11_pays_5 rfl (by decide) rfl ?_
    try simp only [List.set]
    refine g_aload_n (pc' := 7) dX11_pays_6 rfl rfl ?_
    refine g_ifnullN (tgt := 23) dX11_pays_7 (by decide) ?_
    refine g_iconst (v := -1) (pc' := 24) dX11_pays_23 rfl (by decide) ?_
    refine g_iret dX11_pays_24 rfl (by decide) (by decide) ?_
    have e : sPays m x n = (-1, m) := cif_f (fun z => w2 z.1)
    rw [e]
    exact ⟨rfl, hc, rfl⟩
set_option maxRecDepth 4000 in
theorem cx_isWaiting {E : En} (hok : EOK E) {h : Hp} {m : St} (hc : Cp m h) {f k : Nat} (hf : f < nF m) (hk : k < 8) : Call E m_X1_isWaiting 1 0 0 [vR (4, f), vI (nI k)] h (fun r0 h' => r0 = some (vI (bi (¬ m 186 (8 * f + k) = -1))) ∧ h = h') := by
  have hs := hc.s
  refine Call.enter hok (by decide) (Nat.le_of_ble_eq_true rfl) ?_
  show G E m_X1_isWaiting 1 0 0 _ h 0 [some (vR (4, f)), some (vI (nI k))] [] h 0 0
  refine g_iload_n (pc' := 1) dX1_isWaiting_0 rfl rfl ?_
  refine g_iconstN (n := 0) (pc' := 2) dX1_isWaiting_1 rfl ?_
  refine g_bipushN (n := 7) (pc' := 4) dX1_isWaiting_2 rfl (by decide) ?_
  refine g_invSN (pc' := 7) (cx_within hok _ _ _) dX1_isWaiting_4 rfl nn_X1_34 st_X11_within in_X11 co_X11_within pd_X11_within rfl (by omega) (by decide) ⟨by decide, by decide⟩ (Nat.le_of_ble_eq_true rfl) ?_
  rintro _ _ ⟨rfl, rfl⟩ -
  refine g_ifB_eq (tgt := 24) (pc' := 10) dX1_isWaiting_7 rfl (by decide) (fun c7 => ?_) (fun c7 => ?_)
  · exact absurd ⟨nI_le (Nat.zero_le k) (by omega), nI_le (show k ≤ 7 by omega) (by decide)⟩ c7
  ·
    refine g_aload_n (pc' := 11) dX1_isWaiting_10 rfl rfl ?_
    refine g_getS (pc' := 14) (k := 4) (b := (29, f)) dX1_isWaiting_11 rfl rfl ck_2 (by decide) fl_X1_24 rfl hs rfl ?_
    refine g_iload_n (pc' := 15) dX1_isWaiting_14 rfl rfl ?_
    refine g_ialdN (pc' := 16) (v := m 186 (8 * f + k)) dX1_isWaiting_15 rfl rfl (by decide) (by omega) ((hc.c8.2.1 f hf).2 k hk) ?_
    refine g_iconst (v := -1) (pc' := 17) dX1_isWaiting_16 rfl (by decide) ?_
    refine g_icmp_eq (tgt := 24) (pc' := 20) dX1_isWaiting_17 rfl (by decide) (fun c17 => ?_) (fun c17 => ?_)
    ·
      refine g_iconstN (n := 0) (pc' := 25) dX1_isWaiting_24 rfl ?_
      refine g_zret dX1_isWaiting_25 rfl (by rfl) (by decide) (by decide) ?_
      exact ⟨congrArg (fun z : Int32 => some (vI z)) (bi_f (fun z => z c17)).symm, rfl⟩
    ·
      refine g_iconstN (n := 1) (pc' := 21) dX1_isWaiting_20 rfl ?_
      refine g_goto (tgt := 25) dX1_isWaiting_21 (by decide) ?_
      refine g_zret dX1_isWaiting_25 rfl (by rfl) (by decide) (by decide) ?_
      exact ⟨congrArg (fun z : Int32 => some (vI z)) (bi_t c17).symm, rfl⟩
set_option maxRecDepth 4000 in
theorem cx_startWaiting {E : En} (hok : EOK E) {h : Hp} (hs : Shp h.2) {f k : Nat} (hk : k < 8) (x : Int32) : Call E m_X1_startWaiting 1 0 0 [vR (4, f), vI (nI k), vI x] h (fun r h' => r = none ∧ wI h (29, f) k (x) = h') := by
  refine Call.enter hok (by decide) (Nat.le_of_ble_eq_true rfl) ?_
  show G E m_X1_startWaiting 1 0 0 _ h 0 [some (vR (4, f)), some (vI (nI k)), some (vI x)] [] h 0 0
  refine g_iload_n (pc' := 1) dX1_startWaiting_0 rfl rfl ?_
  refine g_iconstN (n := 0) (pc' := 2) dX1_startWaiting_1 rfl ?_
  refine g_bipushN (n := 7) (pc' := 4) dX1_startWaiting_2 rfl (by decide) ?_
  refine g_invSN (pc' := 7) (cx_within hok _ _ _) dX1_startWaiting_4 rfl nn_X1_34 st_X11_within in_X11 co_X11_within pd_X11_within rfl (by omega) (by decide) ⟨by decide, by decide⟩ (Nat.le_of_ble_eq_true rfl) ?_
  rintro _ _ ⟨rfl, rfl⟩ -
  refine g_ifB_eq (tgt := 17) (pc' := 10) dX1_startWaiting_7 rfl (by decide) (fun c7 => ?_) (fun c7 => ?_)
  · exact absurd ⟨nI_le (Nat.zero_le k) (by omega), nI_le (show k ≤ 7 by omega) (by decide)⟩ c7
  ·
    refine g_aload_n (pc' := 11) dX1_startWaiting_10 rfl rfl ?_
    refine g_getS (pc' := 14) (k := 4) (b := (29, f)) dX1_startWaiting_11 rfl rfl ck_2 (by decide) fl_X1_24 rfl hs rfl ?_
    refine g_iload_n (pc' := 15) dX1_startWaiting_14 rfl rfl ?_
    refine g_iload_n (pc' := 16) dX1_startWaiting_15 rfl rfl ?_
    refine g_iastN (pc' := 17) dX1_startWaiting_16 rfl rfl (by decide) (by omega) ?_
    refine g_vret dX1_startWaiting_17 rfl (by decide) (by decide) ?_
    exact ⟨rfl, rfl⟩
set_option maxRecDepth 4000 in
theorem cx_stopWaiting {E : En} (hok : EOK E) {h : Hp} (hs : Shp h.2) {f k : Nat} (hk : k < 8) : Call E m_X1_stopWaiting 1 0 0 [vR (4, f), vI (nI k)] h (fun r h' => r = none ∧ wI h (29, f) k (-1) = h') := by
  refine Call.enter hok (by decide) (Nat.le_of_ble_eq_true rfl) ?_
  show G E m_X1_stopWaiting 1 0 0 _ h 0 [some (vR (4, f)), some (vI (nI k))] [] h 0 0
  refine g_iload_n (pc' := 1) dX1_stopWaiting_0 rfl rfl ?_
  refine g_iconstN (n := 0) (pc' := 2) dX1_stopWaiting_1 rfl ?_
  refine g_bipushN (n := 7) (pc' := 4) dX1_stopWaiting_2 rfl (by decide) ?_
  refine g_invSN (pc' := 7) (cx_within hok _ _ _) dX1_stopWaiting_4 rfl nn_X1_34 st_X11_within in_X11 co_X11_within pd_X11_within rfl (by omega) (by decide) ⟨by decide, by decide⟩ (Nat.le_of_ble_eq_true rfl) ?_
  rintro _ _ ⟨rfl, rfl⟩ -
  refine g_ifB_eq (tgt := 17) (pc' := 10) dX1_stopWaiting_7 rfl (by decide) (fun c7 => ?_) (fun c7 => ?_)
  · exact absurd ⟨nI_le (Nat.zero_le k) (by omega), nI_le (show k ≤ 7 by omega) (by decide)⟩ c7
  ·
    refine g_aload_n (pc' := 11) dX1_stopWaiting_10 rfl rfl ?_
    refine g_getS (pc' := 14) (k := 4) (b := (29, f)) dX1_stopWaiting_11 rfl rfl ck_2 (by decide) fl_X1_24 rfl hs rfl ?_
    refine g_iload_n (pc' := 15) dX1_stopWaiting_14 rfl rfl ?_
    refine g_iconst (v := -1) (pc' := 16) dX1_stopWaiting_15 rfl (by decide) ?_
    refine g_iastN (pc' := 17) dX1_stopWaiting_16 rfl rfl (by decide) (by omega) ?_
    refine g_vret dX1_stopWaiting_17 rfl (by decide) (by decide) ?_
    exact ⟨rfl, rfl⟩
set_option maxRecDepth 4000 in
theorem cx_leaves {E : En} (hok : EOK E) {h : Hp} {m : St} (hc : Cp m h) (hw : Wf m) (x : Int32) (k : Int32) : Call E m_X11_leaves 4 0 0 [vR TH, vI x, vI k] h (fun r h' => r = some (vI (sLeaves m x k).1) ∧ Cp (sLeaves m x k).2 h' ∧ mo h' = mo h) := by
  have hs := hc.s
  have hKb := hw.k.2
  have hTb := hw.t.2
  have hFb := hw.f.2
  have hRb := hw.r.2
  have hGb := hw.g.2
  have hAb := hw.a.2
  have hTlb := hw.tl.2
  have hNwb := hw.w.2
  refine Call.enter hok (by decide) (Nat.le_of_ble_eq_true rfl) ?_
  show G E m_X11_leaves 4 0 0 _ h 0 [some (vR TH), some (vI x), some (vI k), none] [] h 0 0
  refine g_aload_n (pc' := 1) dX11_leaves_0 rfl rfl ?_
  refine g_iload_n (pc' := 2) dX11_leaves_1 rfl rfl ?_
  rcases Classical.em (∃ j : Nat, j < nF m ∧ x = nI j) with w2 | w2
  ·
    have k2 := w2
    obtain ⟨f, hf, rfl⟩ := k2
    refine g_invV (pc' := 5) (cx_familyAt hok hc hw hf) dX11_leaves_2 rfl rfl ck_12 rfl ml_X11_192 im_X11_familyAt sl_X11_familyAt in_X11 co_X11_familyAt pd_X11_familyAt rfl (by omega) (by decide) ⟨by decide, by decide⟩ (Nat.le_of_ble_eq_true rfl) ?_
    rintro _ _ ⟨rfl, rfl⟩ -
    refine g_astore_n (pc' := 6) dX11_leaves_5 rfl (by decide) rfl ?_
    try simp only [List.set]
    refine g_aload_n (pc' := 7) dX11_leaves_6 rfl rfl ?_
    refine g_ifnull (pc' := 10) dX11_leaves_7 rfl ?_
    refine g_aload_n (pc' := 11) dX11_leaves_10 rfl rfl ?_
    refine g_iload_n (pc' := 12) dX11_leaves_11 rfl rfl ?_
    rcases Classical.em (∃ j : Nat, j < nK m ∧ k = nI j) with w12 | w12
    ·
      have k12 := w12
      obtain ⟨j, hj, rfl⟩ := k12
      refine g_invV (pc' := 15) (cx_kindAt hok hc hw hj) dX11_leaves_12 rfl rfl ck_12 rfl ml_X11_119 im_X11_kindAt sl_X11_kindAt in_X11 co_X11_kindAt pd_X11_kindAt rfl (by omega) (by decide) ⟨by decide, by decide⟩ (Nat.le_of_ble_eq_true rfl) ?_
      rintro _ _ ⟨rfl, rfl⟩ -
      refine g_ifnull (pc' := 18) dX11_leaves_15 rfl ?_
      refine g_aload_n (pc' := 19) dX11_leaves_18 rfl rfl ?_
      refine g_iload_n (pc' := 20) dX11_leaves_19 rfl rfl ?_
      refine g_invV (pc' := 23) (cx_isWaiting hok hc (f := f) (k := j) (by omega) (by omega)) dX11_leaves_20 rfl rfl ck_2 rfl ml_X11_335 im_X1_isWaiting sl_X1_isWaiting in_X1 co_X1_isWaiting pd_X1_isWaiting rfl (by omega) (by decide) ⟨by decide, by decide⟩ (Nat.le_of_ble_eq_true rfl) ?_
      rintro _ _ ⟨rfl, rfl⟩ -
      refine g_ifB_ne (tgt := 28) (pc' := 26) dX11_leaves_23 rfl (by decide) (fun c23 => ?_) (fun c23 => ?_)
      ·
        refine g_aload_n (pc' := 29) dX11_leaves_28 rfl rfl ?_
        refine g_iload_n (pc' := 30) dX11_leaves_29 rfl rfl ?_
        refine g_invV (pc' := 33) (cx_stopWaiting hok hs (k := j) (by omega)) dX11_leaves_30 rfl rfl ck_2 rfl ml_X11_219 im_X1_stopWaiting sl_X1_stopWaiting in_X1 co_X1_stopWaiting pd_X1_stopWaiting rfl (by omega) (by decide) ⟨by decide, by decide⟩ (Nat.le_of_ble_eq_true rfl) ?_
        rintro _ _ ⟨rfl, rfl⟩ -
        refine g_iconstN (n := 1) (pc' := 34) dX11_leaves_33 rfl ?_
        refine g_zret dX11_leaves_34 rfl (by rfl) (by decide) (by decide) ?_
        have e : sLeaves m (nI f) (nI j) = (1, stU m 186 (8 * f + j) (-1)) := by unfold sLeaves; simp only [nI_clamp (show f < 2 ^ 31 by omega), nI_clamp (show j < 2 ^ 31 by omega)]; exact cif_t ⟨by assumption, by assumption, by assumption⟩
        rw [e]
        exact ⟨rfl, ⟨hc.s, hc.e, hc.c1, hc.c2, hc.c3, hc.c4, hc.c5, hc.c6, hc.c7, C8_since hc.c8 (by omega) _, hc.c9, hc.c10, C11.same hc.c11 rfl rfl rfl rfl rfl rfl (fun _ => rfl) rfl, hc.c12, hc.c13⟩, mo_off rfl⟩
      ·
        refine g_iconstN (n := 0) (pc' := 27) dX11_leaves_26 rfl ?_
        refine g_zret dX11_leaves_27 rfl (by rfl) (by decide) (by decide) ?_
        have e : sLeaves m (nI f) (nI j) = (0, m) := by unfold sLeaves; simp only [nI_clamp (show f < 2 ^ 31 by omega), nI_clamp (show j < 2 ^ 31 by omega)]; exact cif_f (by rintro ⟨z0, z1, z2⟩; contradiction)
        rw [e]
        exact ⟨rfl, hc, rfl⟩
    ·
      refine g_invV (pc' := 15) (cx_kindAtN hok hc hw w12) dX11_leaves_12 rfl rfl ck_12 rfl ml_X11_119 im_X11_kindAt sl_X11_kindAt in_X11 co_X11_kindAt pd_X11_kindAt rfl (by omega) (by decide) ⟨by decide, by decide⟩ (Nat.le_of_ble_eq_true rfl) ?_
      rintro _ _ ⟨rfl, rfl⟩ -
      refine g_ifnullN (tgt := 26) dX11_leaves_15 (by decide) ?_
      refine g_iconstN (n := 0) (pc' := 27) dX11_leaves_26 rfl ?_
      refine g_zret dX11_leaves_27 rfl (by rfl) (by decide) (by decide) ?_
      have e : sLeaves m (nI f) k = (0, m) := by unfold sLeaves; simp only [nI_clamp (show f < 2 ^ 31 by omega)]; exact cif_f (by rintro ⟨z0, z1, z2⟩; contradiction)
      rw [e]
      exact ⟨rfl, hc, rfl⟩
  ·
    refine g_invV (pc' := 5) (cx_familyAtN hok hc hw w2) dX11_leaves_2 rfl rfl ck_12 rfl ml_X11_192 im_X11_familyAt sl_X11_familyAt in_X11 co_X11_familyAt pd_X11_familyAt rfl (by omega) (by decide) ⟨by decide, by decide⟩ (Nat.le_of_ble_eq_true rfl) ?_
    rintro _ _ ⟨rfl, rfl⟩ -
    refine g_astore_n (pc' := 6) dX11_leaves_5 rfl (by decide) rfl ?_
    try simp only [List.set]
    refine g_aload_n (pc' := 7) dX11_leaves_6 rfl rfl ?_
    refine g_ifnullN (tgt := 26) dX11_leaves_7 (by decide) ?_
    refine g_iconstN (n := 0) (pc' := 27) dX11_leaves_26 rfl ?_
    refine g_zret dX11_leaves_27 rfl (by rfl) (by decide) (by decide) ?_
    have e : sLeaves m x k = (0, m) := by exact cif_f (by rintro ⟨z0, z1, z2⟩; contradiction)
    rw [e]
    exact ⟨rfl, hc, rfl⟩
set_option maxRecDepth 4000 in
theorem cx_weekOf {E : En} (hok : EOK E) {h : Hp} {n : Nat} (hn : n < 1000) : Fn E m_X11_weekOf 0 [vI (nI n)] h (vI (nI (n % 365 / 7))) := by
  refine Call.enter hok (by decide) (Nat.le_of_ble_eq_true rfl) ?_
  show G E m_X11_weekOf 0 0 0 _ h 0 [some (vI (nI n))] [] h 0 0
  refine g_iload_n (pc' := 1) dX11_weekOf_0 rfl rfl ?_
  refine g_sipushN (n := 365) (pc' := 4) dX11_weekOf_1 rfl (by decide) ?_
  refine g_iremN (pc' := 5) dX11_weekOf_4 rfl (by omega) (by omega) (by omega) ?_
  refine g_bipushN (n := 7) (pc' := 7) dX11_weekOf_5 rfl (by decide) ?_
  refine g_idivN (pc' := 8) dX11_weekOf_7 rfl (by omega) (by omega) (by omega) ?_
  refine g_iret dX11_weekOf_8 rfl (by decide) (by decide) ?_
  exact ⟨rfl, rfl⟩
set_option maxRecDepth 4000 in
theorem cx_waits {E : En} (hok : EOK E) {h : Hp} {m : St} (hc : Cp m h) (hw : Wf m) (x : Int32) (k : Int32) : Call E m_X11_waits 4 0 0 [vR TH, vI x, vI k] h (fun r h' => r = some (vI (sWaits m x k).1) ∧ Cp (sWaits m x k).2 h' ∧ mo h' = mo h) := by
  have hs := hc.s
  have hKb := hw.k.2
  have hTb := hw.t.2
  have hFb := hw.f.2
  have hRb := hw.r.2
  have hGb := hw.g.2
  have hAb := hw.a.2
  have hTlb := hw.tl.2
  have hNwb := hw.w.2
  refine Call.enter hok (by decide) (Nat.le_of_ble_eq_true rfl) ?_
  show G E m_X11_waits 4 0 0 _ h 0 [some (vR TH), some (vI x), some (vI k), none] [] h 0 0
  refine g_aload_n (pc' := 1) dX11_waits_0 rfl rfl ?_
  refine g_iload_n (pc' := 2) dX11_waits_1 rfl rfl ?_
  rcases Classical.em (∃ j : Nat, j < nF m ∧ x = nI j) with w2 | w2
  ·
    have k2 := w2
    obtain ⟨f, hf, rfl⟩ := k2
    refine g_invV (pc' := 5) (cx_familyAt hok hc hw hf) dX11_waits_2 rfl rfl ck_12 rfl ml_X11_192 im_X11_familyAt sl_X11_familyAt in_X11 co_X11_familyAt pd_X11_familyAt rfl (by omega) (by decide) ⟨by decide, by decide⟩ (Nat.le_of_ble_eq_true rfl) ?_
    rintro _ _ ⟨rfl, rfl⟩ -
    refine g_astore_n (pc' := 6) dX11_waits_5 rfl (by decide) rfl ?_
    try simp only [List.set]
    refine g_aload_n (pc' := 7) dX11_waits_6 rfl rfl ?_
    refine g_ifnull (pc' := 10) dX11_waits_7 rfl ?_
    refine g_aload_n (pc' := 11) dX11_waits_10 rfl rfl ?_
    refine g_iload_n (pc' := 12) dX11_waits_11 rfl rfl ?_
    rcases Classical.em (∃ j : Nat, j < nK m ∧ k = nI j) with w12 | w12
    ·
      have k12 := w12
      obtain ⟨j, hj, rfl⟩ := k12
      refine g_invV (pc' := 15) (cx_kindAt hok hc hw hj) dX11_waits_12 rfl rfl ck_12 rfl ml_X11_119 im_X11_kindAt sl_X11_kindAt in_X11 co_X11_kindAt pd_X11_kindAt rfl (by omega) (by decide) ⟨by decide, by decide⟩ (Nat.le_of_ble_eq_true rfl) ?_
      rintro _ _ ⟨rfl, rfl⟩ -
      refine g_ifnull (pc' := 18) dX11_waits_15 rfl ?_
      refine g_aload_n (pc' := 19) dX11_waits_18 rfl rfl ?_
      refine g_iload_n (pc' := 20) dX11_waits_19 rfl rfl ?_
      refine g_invV (pc' := 23) (cx_isWaiting hok hc (f := f) (k := j) (by omega) (by omega)) dX11_waits_20 rfl rfl ck_2 rfl ml_X11_335 im_X1_isWaiting sl_X1_isWaiting in_X1 co_X1_isWaiting pd_X1_isWaiting rfl (by omega) (by decide) ⟨by decide, by decide⟩ (Nat.le_of_ble_eq_true rfl) ?_
      rintro _ _ ⟨rfl, rfl⟩ -
      refine g_ifB_eq (tgt := 28) (pc' := 26) dX11_waits_23 rfl (by decide) (fun c23 => ?_) (fun c23 => ?_)
      ·
        refine g_aload_n (pc' := 29) dX11_waits_28 rfl rfl ?_
        refine g_iload_n (pc' := 30) dX11_waits_29 rfl rfl ?_
        refine g_aload_n (pc' := 31) dX11_waits_30 rfl rfl ?_
        refine g_getIv (v := m 1 2) (pc' := 34) (k := 0) dX11_waits_31 rfl rfl ck_12 (by decide) fl_X11_95 rfl (hc.c1.1) ?_
        refine g_invV (pc' := 37) (cx_startWaiting hok hs (k := j) (by omega) _) dX11_waits_34 rfl rfl ck_2 rfl ml_X11_339 im_X1_startWaiting sl_X1_startWaiting in_X1 co_X1_startWaiting pd_X1_startWaiting rfl (by omega) (by decide) ⟨by decide, by decide⟩ (Nat.le_of_ble_eq_true rfl) ?_
        rintro _ _ ⟨rfl, rfl⟩ -
        refine g_aload_n (pc' := 38) dX11_waits_37 rfl rfl ?_
        refine g_getS (pc' := 41) (k := 8) (b := (22, 0)) dX11_waits_38 rfl rfl ck_12 (by decide) fl_X11_22 rfl hs rfl ?_
        refine g_aload_n (pc' := 42) dX11_waits_41 rfl rfl ?_
        refine g_getIv (v := nI (nW m)) (pc' := 45) (k := 0) dX11_waits_42 rfl rfl ck_12 (by decide) fl_X11_95 rfl (hc.c1.1.trans hw.w.1) ?_
        refine g_invS (pc' := 48) (cx_weekOf hok (n := nW m) (by omega)) dX11_waits_45 rfl ml_X11_343 st_X11_weekOf in_X11 co_X11_weekOf pd_X11_weekOf rfl (by omega) (by decide) ⟨by decide, by decide⟩ (Nat.le_of_ble_eq_true rfl) ?_
        rintro _ _ ⟨rfl, rfl⟩ -
        refine g_dup2 (pc' := 49) dX11_waits_48 rfl rfl rfl ?_
        refine g_ialdN (pc' := 50) (v := m 187 (nW m % 365 / 7)) dX11_waits_49 rfl rfl (by decide) (by omega) (hc.c4 _ (by omega)) ?_
        refine g_iconstN (n := 1) (pc' := 51) dX11_waits_50 rfl ?_
        refine g_iadd (pc' := 52) dX11_waits_51 rfl ?_
        refine g_iastN (pc' := 53) dX11_waits_52 rfl rfl (by decide) (by omega) ?_
        refine g_iconstN (n := 1) (pc' := 54) dX11_waits_53 rfl ?_
        refine g_zret dX11_waits_54 rfl (by rfl) (by decide) (by decide) ?_
        have e : sWaits m (nI f) (nI j) = (1, stU (stU m 186 (8 * f + j) (m 1 2)) 187 (nW m % 365 / 7) (m 187 (nW m % 365 / 7) + nI 1)) := by unfold sWaits; simp only [nI_clamp (show f < 2 ^ 31 by omega), nI_clamp (show j < 2 ^ 31 by omega)]; exact cif_t ⟨w2, w12, Classical.byContradiction c23⟩
        rw [e]
        exact ⟨rfl, ⟨hc.s, hc.e, hc.c1, hc.c2, hc.c3, C4_w hc.c4 _ _, hc.c5, hc.c6, hc.c7, C8_since hc.c8 (by omega) _, hc.c9, hc.c10, C11.same hc.c11 rfl rfl rfl rfl rfl rfl (fun _ => rfl) rfl, hc.c12, hc.c13⟩, (mo_off rfl).trans (mo_off rfl)⟩
      ·
        refine g_iconstN (n := 0) (pc' := 27) dX11_waits_26 rfl ?_
        refine g_zret dX11_waits_27 rfl (by rfl) (by decide) (by decide) ?_
        have e : sWaits m (nI f) (nI j) = (0, m) := by unfold sWaits; simp only [nI_clamp (show f < 2 ^ 31 by omega), nI_clamp (show j < 2 ^ 31 by omega)]; exact cif_f (by rintro ⟨z0, z1, z2⟩; contradiction)
        rw [e]
        exact ⟨rfl, hc, rfl⟩
    ·
      refine g_invV (pc' := 15) (cx_kindAtN hok hc hw w12) dX11_waits_12 rfl rfl ck_12 rfl ml_X11_119 im_X11_kindAt sl_X11_kindAt in_X11 co_X11_kindAt pd_X11_kindAt rfl (by omega) (by decide) ⟨by decide, by decide⟩ (Nat.le_of_ble_eq_true rfl) ?_
      rintro _ _ ⟨rfl, rfl⟩ -
      refine g_ifnullN (tgt := 26) dX11_waits_15 (by decide) ?_
      refine g_iconstN (n := 0) (pc' := 27) dX11_waits_26 rfl ?_
      refine g_zret dX11_waits_27 rfl (by rfl) (by decide) (by decide) ?_
      have e : sWaits m (nI f) k = (0, m) := by unfold sWaits; simp only [nI_clamp (show f < 2 ^ 31 by omega)]; exact cif_f (by rintro ⟨z0, z1, z2⟩; contradiction)
      rw [e]
      exact ⟨rfl, hc, rfl⟩
  ·
    refine g_invV (pc' := 5) (cx_familyAtN hok hc hw w2) dX11_waits_2 rfl rfl ck_12 rfl ml_X11_192 im_X11_familyAt sl_X11_familyAt in_X11 co_X11_familyAt pd_X11_familyAt rfl (by omega) (by decide) ⟨by decide, by decide⟩ (Nat.le_of_ble_eq_true rfl) ?_
    rintro _ _ ⟨rfl, rfl⟩ -
    refine g_astore_n (pc' := 6) dX11_waits_5 rfl (by decide) rfl ?_
    try simp only [List.set]
    refine g_aload_n (pc' := 7) dX11_waits_6 rfl rfl ?_
    refine g_ifnullN (tgt := 26) dX11_waits_7 (by decide) ?_
    refine g_iconstN (n := 0) (pc' := 27) dX11_waits_26 rfl ?_
    refine g_zret dX11_waits_27 rfl (by rfl) (by decide) (by decide) ?_
    have e : sWaits m x k = (0, m) := by exact cif_f (by rintro ⟨z0, z1, z2⟩; contradiction)
    rw [e]
    exact ⟨rfl, hc, rfl⟩
