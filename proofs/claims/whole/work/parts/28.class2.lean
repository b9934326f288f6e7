theorem Cp.k0 {m : St} {h : Hp} (c : Cp m h) {k : Nat} (q : k < nK m) : h.1 (2, k) 0 = nI k := (c.c5.2.1 k q).1.1
theorem Cp.k1 {m : St} {h : Hp} (c : Cp m h) {k : Nat} (q : k < nK m) : h.1 (2, k) 1 = m 108 k := (c.c5.2.1 k q).1.2.1
theorem Cp.k2 {m : St} {h : Hp} (c : Cp m h) {k : Nat} (q : k < nK m) : h.1 (2, k) 2 = m 109 k := (c.c5.2.1 k q).1.2.2.1
theorem Cp.k3 {m : St} {h : Hp} (c : Cp m h) {k : Nat} (q : k < nK m) : h.1 (2, k) 3 = m 110 k := (c.c5.2.1 k q).1.2.2.2.1
theorem Cp.k4 {m : St} {h : Hp} (c : Cp m h) {k : Nat} (q : k < nK m) : h.1 (2, k) 4 = m 111 k := (c.c5.2.1 k q).1.2.2.2.2.1
theorem Cp.k5 {m : St} {h : Hp} (c : Cp m h) {k : Nat} (q : k < nK m) : h.1 (2, k) 5 = m 112 k := (c.c5.2.1 k q).1.2.2.2.2.2
theorem Cp.t0 {m : St} {h : Hp} (c : Cp m h) {t : Nat} (q : t < nT m) : h.1 (3, t) 0 = nI t := (c.c6.2.1 t q).2.1.1
theorem Cp.t2 {m : St} {h : Hp} (c : Cp m h) {t : Nat} (q : t < nT m) : h.1 (3, t) 2 = m 116 t := (c.c6.2.1 t q).2.1.2.1
theorem Cp.t7 {m : St} {h : Hp} (c : Cp m h) {t : Nat} (q : t < nT m) : h.1 (3, t) 7 = m 118 t := (c.c6.2.1 t q).2.1.2.2.1
theorem Cp.t8 {m : St} {h : Hp} (c : Cp m h) {t : Nat} (q : t < nT m) : h.1 (3, t) 8 = m 119 t := (c.c6.2.1 t q).2.1.2.2.2.1
theorem Cp.t9 {m : St} {h : Hp} (c : Cp m h) {t : Nat} (q : t < nT m) : h.1 (3, t) 9 = m 120 t := (c.c6.2.1 t q).2.1.2.2.2.2.1
theorem Cp.t10 {m : St} {h : Hp} (c : Cp m h) {t : Nat} (q : t < nT m) : h.1 (3, t) 10 = m 121 t := (c.c6.2.1 t q).2.1.2.2.2.2.2.1
theorem Cp.t12 {m : St} {h : Hp} (c : Cp m h) {t : Nat} (q : t < nT m) : h.1 (3, t) 12 = m 117 t := (c.c6.2.1 t q).2.1.2.2.2.2.2.2.2.1
theorem Cp.t13 {m : St} {h : Hp} (c : Cp m h) {t : Nat} (q : t < nT m) : h.1 (3, t) 13 = m 122 t := (c.c6.2.1 t q).2.1.2.2.2.2.2.2.2.2.1
theorem Cp.t14 {m : St} {h : Hp} (c : Cp m h) {t : Nat} (q : t < nT m) : h.1 (3, t) 14 = m 124 t := (c.c6.2.1 t q).2.1.2.2.2.2.2.2.2.2.2
theorem Cp.f0 {m : St} {h : Hp} (c : Cp m h) {f : Nat} (q : f < nF m) : h.1 (4, f) 0 = nI f := (c.c8.2.1 f q).1.1
theorem Cp.f1 {m : St} {h : Hp} (c : Cp m h) {f : Nat} (q : f < nF m) : h.1 (4, f) 1 = m 126 f := (c.c8.2.1 f q).1.2.1
theorem Cp.f2 {m : St} {h : Hp} (c : Cp m h) {f : Nat} (q : f < nF m) : h.1 (4, f) 2 = m 127 f := (c.c8.2.1 f q).1.2.2.1
theorem Cp.f3 {m : St} {h : Hp} (c : Cp m h) {f : Nat} (q : f < nF m) : h.1 (4, f) 3 = m 128 f := (c.c8.2.1 f q).1.2.2.2.1
theorem Cp.f5 {m : St} {h : Hp} (c : Cp m h) {f : Nat} (q : f < nF m) : h.1 (4, f) 5 = m 129 f := (c.c8.2.1 f q).1.2.2.2.2
theorem Cp.r0 {m : St} {h : Hp} (c : Cp m h) {r : Nat} (q : r < nR m) : h.1 (5, r) 0 = m 161 r := (c.c9.2.1 r q).1.1
theorem Cp.r1 {m : St} {h : Hp} (c : Cp m h) {r : Nat} (q : r < nR m) : h.1 (5, r) 1 = m 162 r := (c.c9.2.1 r q).1.2.1
theorem Cp.r2 {m : St} {h : Hp} (c : Cp m h) {r : Nat} (q : r < nR m) : h.1 (5, r) 2 = m 163 r := (c.c9.2.1 r q).1.2.2.1
theorem Cp.r3 {m : St} {h : Hp} (c : Cp m h) {r : Nat} (q : r < nR m) : h.1 (5, r) 3 = m 164 r := (c.c9.2.1 r q).1.2.2.2.1
theorem Cp.r5 {m : St} {h : Hp} (c : Cp m h) {r : Nat} (q : r < nR m) : h.1 (5, r) 5 = m 165 r := (c.c9.2.1 r q).1.2.2.2.2
set_option maxRecDepth 4000 in
theorem cx_now {E : En} (hok : EOK E) {h : Hp} {m : St} (hc : Cp m h) (hw : Wf m) (x : Int32) : Call E m_X11_now 0 0 0 [vR TH, vI x] h (fun r h' => r = some (vI (sNow m x).1) ∧ Cp (sNow m x).2 h' ∧ mo h' = mo h) := by
  have hs := hc.s
  have hKb := hw.k.2
  have hTb := hw.t.2
  have hFb := hw.f.2
  have hRb := hw.r.2
  have hGb := hw.g.2
  have hAb := hw.a.2
  have hTlb := hw.tl.2
  have hNwb := hw.w.2
  refine Call.enter hok (by decide) (Nat.le_of_ble_eq_true rfl) ?_
  show G E m_X11_now 0 0 0 _ h 0 [some (vR TH), some (vI x)] [] h 0 0
  refine g_iload_n (pc' := 1) dX11_now_0 rfl rfl ?_
  refine g_aload_n (pc' := 2) dX11_now_1 rfl rfl ?_
  refine g_getIv (v := m 1 2) (pc' := 5) (k := 0) dX11_now_2 rfl rfl ck_12 (by decide) fl_X11_95 rfl (hc.c1.1) ?_
  refine g_icmp_lt (tgt := 15) (pc' := 8) dX11_now_5 rfl (by decide) (fun c5 => ?_) (fun c5 => ?_)
  ·
    refine g_iconstN (n := 0) (pc' := 16) dX11_now_15 rfl ?_
    refine g_zret dX11_now_16 rfl (by rfl) (by decide) (by decide) ?_
    have e : sNow m x = (0, m) := cif_f (fun z => absurd z.1 (Int32.not_le.mpr c5))
    rw [e]
    exact ⟨rfl, hc, rfl⟩
  ·
    refine g_iload_n (pc' := 9) dX11_now_8 rfl rfl ?_
    refine g_sipushN (n := 699) (pc' := 12) dX11_now_9 rfl (by decide) ?_
    refine g_icmp_le (tgt := 17) (pc' := 15) dX11_now_12 rfl (by decide) (fun c12 => ?_) (fun c12 => ?_)
    ·
      refine g_aload_n (pc' := 18) dX11_now_17 rfl rfl ?_
      refine g_iload_n (pc' := 19) dX11_now_18 rfl rfl ?_
      refine g_putI (pc' := 22) (k := 0) dX11_now_19 rfl rfl ck_12 (by decide) fl_X11_95 rfl rfl rfl rfl ?_
      refine g_iconstN (n := 1) (pc' := 23) dX11_now_22 rfl ?_
      refine g_zret dX11_now_23 rfl (by rfl) (by decide) (by decide) ?_
      have e : sNow m x = (1, stU m 1 2 x) := cif_t ⟨Int32.not_lt.mp c5, c12⟩
      rw [e]
      exact ⟨rfl, ⟨hc.s, hc.e, ⟨rfl, hc.c1.2.1, hc.c1.2.2.1, hc.c1.2.2.2.1, hc.c1.2.2.2.2⟩, hc.c2, hc.c3, hc.c4, hc.c5, hc.c6, hc.c7, hc.c8, hc.c9, hc.c10, C11.same hc.c11 rfl rfl rfl rfl rfl rfl (fun _ => rfl) rfl, hc.c12, hc.c13⟩, mo_off rfl⟩
    ·
      refine g_iconstN (n := 0) (pc' := 16) dX11_now_15 rfl ?_
      refine g_zret dX11_now_16 rfl (by rfl) (by decide) (by decide) ?_
      have e : sNow m x = (0, m) := cif_f (fun z => c12 z.2)
      rw [e]
      exact ⟨rfl, hc, rfl⟩
set_option maxRecDepth 4000 in
theorem cx_bag {E : En} (hok : EOK E) {h : Hp} {m : St} (hc : Cp m h) (hw : Wf m) (x : Int32) : Call E m_X11_bag 1 0 0 [vR TH, vI x] h (fun r h' => r = some (vI (sBag m x).1) ∧ Cp (sBag m x).2 h' ∧ mo h' = mo h) := by
  have hs := hc.s
  have hKb := hw.k.2
  have hTb := hw.t.2
  have hFb := hw.f.2
  have hRb := hw.r.2
  have hGb := hw.g.2
  have hAb := hw.a.2
  have hTlb := hw.tl.2
  have hNwb := hw.w.2
  refine Call.enter hok (by decide) (Nat.le_of_ble_eq_true rfl) ?_
  show G E m_X11_bag 1 0 0 _ h 0 [some (vR TH), some (vI x)] [] h 0 0
  refine g_iload_n (pc' := 1) dX11_bag_0 rfl rfl ?_
  refine g_iconstN (n := 0) (pc' := 2) dX11_bag_1 rfl ?_
  refine g_sipushN (n := 2000) (pc' := 5) dX11_bag_2 rfl (by decide) ?_
  refine g_invS (pc' := 8) (cx_within hok _ _ _) dX11_bag_5 rfl ml_X11_99 st_X11_within in_X11 co_X11_within pd_X11_within rfl (by omega) (by decide) ⟨by decide, by decide⟩ (Nat.le_of_ble_eq_true rfl) ?_
  rintro _ _ ⟨rfl, rfl⟩ -
  refine g_ifB_ne (tgt := 13) (pc' := 11) dX11_bag_8 rfl (by decide) (fun c8 => ?_) (fun c8 => ?_)
  ·
    refine g_aload_n (pc' := 14) dX11_bag_13 rfl rfl ?_
    refine g_iload_n (pc' := 15) dX11_bag_14 rfl rfl ?_
    refine g_putI (pc' := 18) (k := 1) dX11_bag_15 rfl rfl ck_12 (by decide) fl_X11_145 rfl rfl rfl rfl ?_
    refine g_iconstN (n := 1) (pc' := 19) dX11_bag_18 rfl ?_
    refine g_zret dX11_bag_19 rfl (by rfl) (by decide) (by decide) ?_
    have e : sBag m x = (1, stU m 1 6 x) := by exact cif_t (by assumption)
    rw [e]
    exact ⟨rfl, ⟨hc.s, hc.e, ⟨hc.c1.1, rfl, hc.c1.2.2.1, hc.c1.2.2.2.1, hc.c1.2.2.2.2⟩, hc.c2, hc.c3, hc.c4, hc.c5, hc.c6, hc.c7, hc.c8, hc.c9, hc.c10, C11.same hc.c11 rfl rfl rfl rfl rfl rfl (fun _ => rfl) rfl, hc.c12, hc.c13⟩, mo_off rfl⟩
  ·
    refine g_iconstN (n := 0) (pc' := 12) dX11_bag_11 rfl ?_
    refine g_zret dX11_bag_12 rfl (by rfl) (by decide) (by decide) ?_
    have e : sBag m x = (0, m) := by exact cif_f (by rintro z; contradiction)
    rw [e]
    exact ⟨rfl, hc, rfl⟩
set_option maxRecDepth 4000 in
theorem cx_telling {E : En} (hok : EOK E) {h : Hp} {m : St} (hc : Cp m h) (hw : Wf m) (x : Int32) : Call E m_X11_telling 1 0 0 [vR TH, vI x] h (fun r h' => r = some (vI (sTelling m x).1) ∧ Cp (sTelling m x).2 h' ∧ mo h' = mo h) := by
  have hs := hc.s
  have hKb := hw.k.2
  have hTb := hw.t.2
  have hFb := hw.f.2
  have hRb := hw.r.2
  have hGb := hw.g.2
  have hAb := hw.a.2
  have hTlb := hw.tl.2
  have hNwb := hw.w.2
  refine Call.enter hok (by decide) (Nat.le_of_ble_eq_true rfl) ?_
  show G E m_X11_telling 1 0 0 _ h 0 [some (vR TH), some (vI x)] [] h 0 0
  refine g_iload_n (pc' := 1) dX11_telling_0 rfl rfl ?_
  refine g_iconstN (n := 0) (pc' := 2) dX11_telling_1 rfl ?_
  refine g_bipushN (n := 30) (pc' := 4) dX11_telling_2 rfl (by decide) ?_
  refine g_invS (pc' := 7) (cx_within hok _ _ _) dX11_telling_4 rfl ml_X11_99 st_X11_within in_X11 co_X11_within pd_X11_within rfl (by omega) (by decide) ⟨by decide, by decide⟩ (Nat.le_of_ble_eq_true rfl) ?_
  rintro _ _ ⟨rfl, rfl⟩ -
  refine g_ifB_ne (tgt := 12) (pc' := 10) dX11_telling_7 rfl (by decide) (fun c7 => ?_) (fun c7 => ?_)
  ·
    refine g_aload_n (pc' := 13) dX11_telling_12 rfl rfl ?_
    refine g_iload_n (pc' := 14) dX11_telling_13 rfl rfl ?_
    refine g_putI (pc' := 17) (k := 2) dX11_telling_14 rfl rfl ck_12 (by decide) fl_X11_148 rfl rfl rfl rfl ?_
    refine g_iconstN (n := 1) (pc' := 18) dX11_telling_17 rfl ?_
    refine g_zret dX11_telling_18 rfl (by rfl) (by decide) (by decide) ?_
    have e : sTelling m x = (1, stU m 1 7 x) := by exact cif_t (by assumption)
    rw [e]
    exact ⟨rfl, ⟨hc.s, hc.e, ⟨hc.c1.1, hc.c1.2.1, rfl, hc.c1.2.2.2.1, hc.c1.2.2.2.2⟩, hc.c2, hc.c3, hc.c4, hc.c5, hc.c6, hc.c7, hc.c8, hc.c9, hc.c10, C11.same hc.c11 rfl rfl rfl rfl rfl rfl (fun _ => rfl) rfl, hc.c12, hc.c13⟩, mo_off rfl⟩
  ·
    refine g_iconstN (n := 0) (pc' := 11) dX11_telling_10 rfl ?_
    refine g_zret dX11_telling_11 rfl (by rfl) (by decide) (by decide) ?_
    have e : sTelling m x = (0, m) := by exact cif_f (by rintro z; contradiction)
    rw [e]
    exact ⟨rfl, hc, rfl⟩
theorem C3_w {m : St} {h : Hp} (c : C3 m h) (i : Nat) (x : Int32) : C3 (stU m 191 i x) (wI h (21, 0) i x) := fun j hj => by
  rw [wI_at, stU_at]
  by_cases e : j = i
  · rw [if_pos ⟨rfl, e⟩, if_pos ⟨rfl, e⟩]
  · rw [if_neg (fun z => e z.2), if_neg (fun z => e z.2)]
    exact c j hj
set_option maxRecDepth 4000 in
theorem cx_minutes {E : En} (hok : EOK E) {h : Hp} {m : St} (hc : Cp m h) (hw : Wf m) (x : Int32) (n : Int32) : Call E m_X11_minutes 1 0 0 [vR TH, vI x, vI n] h (fun r h' => r = some (vI (sMinutes m x n).1) ∧ Cp (sMinutes m x n).2 h' ∧ mo h' = mo h) := by
  have hs := hc.s
  have hKb := hw.k.2
  have hTb := hw.t.2
  have hFb := hw.f.2
  have hRb := hw.r.2
  have hGb := hw.g.2
  have hAb := hw.a.2
  have hTlb := hw.tl.2
  have hNwb := hw.w.2
  refine Call.enter hok (by decide) (Nat.le_of_ble_eq_true rfl) ?_
  show G E m_X11_minutes 1 0 0 _ h 0 [some (vR TH), some (vI x), some (vI n)] [] h 0 0
  refine g_iload_n (pc' := 1) dX11_minutes_0 rfl rfl ?_
  refine g_iconstN (n := 0) (pc' := 2) dX11_minutes_1 rfl ?_
  refine g_iconstN (n := 5) (pc' := 3) dX11_minutes_2 rfl ?_
  refine g_invS (pc' := 6) (cx_within hok _ _ _) dX11_minutes_3 rfl ml_X11_99 st_X11_within in_X11 co_X11_within pd_X11_within rfl (by omega) (by decide) ⟨by decide, by decide⟩ (Nat.le_of_ble_eq_true rfl) ?_
  rintro _ _ ⟨rfl, rfl⟩ -
  refine g_ifB_eq (tgt := 20) (pc' := 9) dX11_minutes_6 rfl (by decide) (fun c6 => ?_) (fun c6 => ?_)
  ·
    refine g_iconstN (n := 0) (pc' := 21) dX11_minutes_20 rfl ?_
    refine g_zret dX11_minutes_21 rfl (by rfl) (by decide) (by decide) ?_
    have e : sMinutes m x n = (0, m) := by exact cif_f (by rintro ⟨z0, z1⟩; contradiction)
    rw [e]
    exact ⟨rfl, hc, rfl⟩
  ·
    refine g_iload_n (pc' := 10) dX11_minutes_9 rfl rfl ?_
    refine g_iconstN (n := 0) (pc' := 11) dX11_minutes_10 rfl ?_
    refine g_sipushN (n := 600) (pc' := 14) dX11_minutes_11 rfl (by decide) ?_
    refine g_invS (pc' := 17) (cx_within hok _ _ _) dX11_minutes_14 rfl ml_X11_99 st_X11_within in_X11 co_X11_within pd_X11_within rfl (by omega) (by decide) ⟨by decide, by decide⟩ (Nat.le_of_ble_eq_true rfl) ?_
    rintro _ _ ⟨rfl, rfl⟩ -
    refine g_ifB_ne (tgt := 22) (pc' := 20) dX11_minutes_17 rfl (by decide) (fun c17 => ?_) (fun c17 => ?_)
    ·
      refine g_aload_n (pc' := 23) dX11_minutes_22 rfl rfl ?_
      refine g_getS (pc' := 26) (k := 7) (b := (21, 0)) dX11_minutes_23 rfl rfl ck_12 (by decide) fl_X11_13 rfl hs rfl ?_
      refine g_iload_n (pc' := 27) dX11_minutes_26 rfl rfl ?_
      refine g_iload_n (pc' := 28) dX11_minutes_27 rfl rfl ?_
      refine g_iast (pc' := 29) dX11_minutes_28 rfl rfl (vp_of (sort_iff.mp c6) (by decide)) ?_
      refine g_iconstN (n := 1) (pc' := 30) dX11_minutes_29 rfl ?_
      refine g_zret dX11_minutes_30 rfl (by rfl) (by decide) (by decide) ?_
      have e : sMinutes m x n = (1, stU m 191 x.toNatClampNeg n) := by exact cif_t ⟨by assumption, by assumption⟩
      rw [e]
      exact ⟨rfl, ⟨hc.s, hc.e, hc.c1, hc.c2, C3_w hc.c3 _ _, hc.c4, hc.c5, hc.c6, hc.c7, hc.c8, hc.c9, hc.c10, C11.same hc.c11 rfl rfl rfl rfl rfl rfl (fun _ => rfl) rfl, hc.c12, hc.c13⟩, mo_off rfl⟩
    ·
      refine g_iconstN (n := 0) (pc' := 21) dX11_minutes_20 rfl ?_
      refine g_zret dX11_minutes_21 rfl (by rfl) (by decide) (by decide) ?_
      have e : sMinutes m x n = (0, m) := by exact cif_f (by rintro ⟨z0, z1⟩; contradiction)
      rw [e]
      exact ⟨rfl, hc, rfl⟩
