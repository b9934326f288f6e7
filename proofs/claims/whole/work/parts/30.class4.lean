set_option maxRecDepth 4000 in
theorem cx_wasTold {E : En} (hok : EOK E) {h : Hp} {m : St} (hc : Cp m h) (hw : Wf m) {r f : Nat} (hr : r < nR m) (hf : f < 10) : Call E m_X4_wasTold 1 0 0 [vR (5, r), vI (nI f)] h (fun r0 h' => r0 = some (vI (bi (¬ m 166 (10 * r + f) = -1))) ∧ h = h') := by
  have hs := hc.s
  have hKb := hw.k.2
  have hTb := hw.t.2
  have hFb := hw.f.2
  have hRb := hw.r.2
  have hGb := hw.g.2
  have hAb := hw.a.2
  have hTlb := hw.tl.2
  have hNwb := hw.w.2
  refine Call.enter hok (by decide) (Nat.le_of_ble_eq_true rfl) ?_
  show G E m_X4_wasTold 1 0 0 _ h 0 [some (vR (5, r)), some (vI (nI f))] [] h 0 0
  refine g_iload_n (pc' := 1) dX4_wasTold_0 rfl rfl ?_
  refine g_iconstN (n := 0) (pc' := 2) dX4_wasTold_1 rfl ?_
  refine g_bipushN (n := 9) (pc' := 4) dX4_wasTold_2 rfl (by decide) ?_
  refine g_invSN (pc' := 7) (cx_within hok _ _ _) dX4_wasTold_4 rfl nn_X4_46 st_X11_within in_X11 co_X11_within pd_X11_within rfl (by omega) (by decide) ⟨by decide, by decide⟩ (Nat.le_of_ble_eq_true rfl) ?_
  rintro _ _ ⟨rfl, rfl⟩ -
  refine g_ifB_eq (tgt := 24) (pc' := 10) dX4_wasTold_7 rfl (by decide) (fun c7 => ?_) (fun c7 => ?_)
  · exact absurd ⟨nI_le (Nat.zero_le f) (by omega), nI_le (show f ≤ 9 by omega) (by decide)⟩ c7
  ·
    refine g_aload_n (pc' := 11) dX4_wasTold_10 rfl rfl ?_
    refine g_getS (pc' := 14) (k := 4) (b := (30, r)) dX4_wasTold_11 rfl rfl ck_5 (by decide) fl_X4_24 rfl hs rfl ?_
    refine g_iload_n (pc' := 15) dX4_wasTold_14 rfl rfl ?_
    refine g_ialdN (pc' := 16) (v := m 166 (10 * r + f)) dX4_wasTold_15 rfl rfl (by decide) (by omega) ((hc.c9.2.1 r hr).2 f hf) ?_
    refine g_iconst (v := -1) (pc' := 17) dX4_wasTold_16 rfl (by decide) ?_
    refine g_icmp_eq (tgt := 24) (pc' := 20) dX4_wasTold_17 rfl (by decide) (fun c17 => ?_) (fun c17 => ?_)
    ·
      refine g_iconstN (n := 0) (pc' := 25) dX4_wasTold_24 rfl ?_
      refine g_zret dX4_wasTold_25 rfl (by rfl) (by decide) (by decide) ?_
      exact ⟨congrArg (fun z : Int32 => some (vI z)) (bi_f (P := ¬ m 166 (10 * r + f) = -1) (fun z => z c17)).symm, rfl⟩
    ·
      refine g_iconstN (n := 1) (pc' := 21) dX4_wasTold_20 rfl ?_
      refine g_goto (tgt := 25) dX4_wasTold_21 (by decide) ?_
      refine g_zret dX4_wasTold_25 rfl (by rfl) (by decide) (by decide) ?_
      exact ⟨congrArg (fun z : Int32 => some (vI z)) (bi_t (P := ¬ m 166 (10 * r + f) = -1) (c17)).symm, rfl⟩
set_option maxRecDepth 4000 in
theorem cx_tell {E : En} (hok : EOK E) {h : Hp} (hs : Shp h.2) {r f : Nat} (hf : f < 10) (x : Int32) : Call E m_X4_tell 1 0 0 [vR (5, r), vI (nI f), vI x] h (fun r' h' => r' = none ∧ wI h (30, r) f x = h') := by
  refine Call.enter hok (by decide) (Nat.le_of_ble_eq_true rfl) ?_
  show G E m_X4_tell 1 0 0 _ h 0 [some (vR (5, r)), some (vI (nI f)), some (vI x)] [] h 0 0
  refine g_iload_n (pc' := 1) dX4_tell_0 rfl rfl ?_
  refine g_iconstN (n := 0) (pc' := 2) dX4_tell_1 rfl ?_
  refine g_bipushN (n := 9) (pc' := 4) dX4_tell_2 rfl (by decide) ?_
  refine g_invSN (pc' := 7) (cx_within hok _ _ _) dX4_tell_4 rfl nn_X4_46 st_X11_within in_X11 co_X11_within pd_X11_within rfl (by omega) (by decide) ⟨by decide, by decide⟩ (Nat.le_of_ble_eq_true rfl) ?_
  rintro _ _ ⟨rfl, rfl⟩ -
  refine g_ifB_eq (tgt := 17) (pc' := 10) dX4_tell_7 rfl (by decide) (fun c7 => ?_) (fun c7 => ?_)
  · exact absurd ⟨nI_le (Nat.zero_le f) (by omega), nI_le (show f ≤ 9 by omega) (by decide)⟩ c7
  ·
    refine g_aload_n (pc' := 11) dX4_tell_10 rfl rfl ?_
    refine g_getS (pc' := 14) (k := 4) (b := (30, r)) dX4_tell_11 rfl rfl ck_5 (by decide) fl_X4_24 rfl hs rfl ?_
    refine g_iload_n (pc' := 15) dX4_tell_14 rfl rfl ?_
    refine g_iload_n (pc' := 16) dX4_tell_15 rfl rfl ?_
    refine g_iastN (pc' := 17) dX4_tell_16 rfl rfl (by decide) (by omega) ?_
    refine g_vret dX4_tell_17 rfl (by decide) (by decide) ?_
    exact ⟨rfl, rfl⟩
set_option maxRecDepth 4000 in
theorem cx_told {E : En} (hok : EOK E) {h : Hp} {m : St} (hc : Cp m h) (hw : Wf m) (x : Int32) (k : Int32) : Call E m_X11_told 4 0 0 [vR TH, vI x, vI k] h (fun r h' => r = some (vI (sTold m x k).1) ∧ Cp (sTold m x k).2 h' ∧ mo h' = mo h) := by
  have hs := hc.s
  have hKb := hw.k.2
  have hTb := hw.t.2
  have hFb := hw.f.2
  have hRb := hw.r.2
  have hGb := hw.g.2
  have hAb := hw.a.2
  have hTlb := hw.tl.2
  have hNwb := hw.w.2
  refine Call.enter hok (by decide) (Nat.le_of_ble_eq_true rfl) ?_
  show G E m_X11_told 4 0 0 _ h 0 [some (vR TH), some (vI x), some (vI k), none] [] h 0 0
  refine g_aload_n (pc' := 1) dX11_told_0 rfl rfl ?_
  refine g_iload_n (pc' := 2) dX11_told_1 rfl rfl ?_
  rcases Classical.em (∃ j : Nat, j < nR m ∧ x = nI j) with w2 | w2
  ·
    have k2 := w2
    obtain ⟨r, hr, rfl⟩ := k2
    refine g_invV (pc' := 5) (cx_recallAt hok hc hw hr) dX11_told_2 rfl rfl ck_12 rfl ml_X11_426 im_X11_recallAt sl_X11_recallAt in_X11 co_X11_recallAt pd_X11_recallAt rfl (by omega) (by decide) ⟨by decide, by decide⟩ (Nat.le_of_ble_eq_true rfl) ?_
    rintro _ _ ⟨rfl, rfl⟩ -
    refine g_astore_n (pc' := 6) dX11_told_5 rfl (by decide) rfl ?_
    try simp only [List.set]
    refine g_aload_n (pc' := 7) dX11_told_6 rfl rfl ?_
    refine g_ifnull (pc' := 10) dX11_told_7 rfl ?_
    refine g_aload_n (pc' := 11) dX11_told_10 rfl rfl ?_
    refine g_iload_n (pc' := 12) dX11_told_11 rfl rfl ?_
    rcases Classical.em (∃ j : Nat, j < nF m ∧ k = nI j) with w12 | w12
    ·
      have k12 := w12
      obtain ⟨f, hf, rfl⟩ := k12
      refine g_invV (pc' := 15) (cx_familyAt hok hc hw hf) dX11_told_12 rfl rfl ck_12 rfl ml_X11_192 im_X11_familyAt sl_X11_familyAt in_X11 co_X11_familyAt pd_X11_familyAt rfl (by omega) (by decide) ⟨by decide, by decide⟩ (Nat.le_of_ble_eq_true rfl) ?_
      rintro _ _ ⟨rfl, rfl⟩ -
      refine g_ifnull (pc' := 18) dX11_told_15 rfl ?_
      refine g_aload_n (pc' := 19) dX11_told_18 rfl rfl ?_
      refine g_iload_n (pc' := 20) dX11_told_19 rfl rfl ?_
      refine g_invV (pc' := 23) (cx_wasTold hok hc hw (r := r) (f := f) (by omega) (by omega)) dX11_told_20 rfl rfl ck_5 rfl ml_X11_430 im_X4_wasTold sl_X4_wasTold in_X4 co_X4_wasTold pd_X4_wasTold rfl (by omega) (by decide) ⟨by decide, by decide⟩ (Nat.le_of_ble_eq_true rfl) ?_
      rintro _ _ ⟨rfl, rfl⟩ -
      refine g_ifB_eq (tgt := 28) (pc' := 26) dX11_told_23 rfl (by decide) (fun c23 => ?_) (fun c23 => ?_)
      ·
        refine g_aload_n (pc' := 29) dX11_told_28 rfl rfl ?_
        refine g_iload_n (pc' := 30) dX11_told_29 rfl rfl ?_
        refine g_aload_n (pc' := 31) dX11_told_30 rfl rfl ?_
        refine g_getIv (v := m 1 2) (pc' := 34) (k := 0) dX11_told_31 rfl rfl ck_12 (by decide) fl_X11_95 rfl (hc.c1.1) ?_
        refine g_invV (pc' := 37) (cx_tell hok hs (f := f) (by omega) _) dX11_told_34 rfl rfl ck_5 rfl ml_X11_433 im_X4_tell sl_X4_tell in_X4 co_X4_tell pd_X4_tell rfl (by omega) (by decide) ⟨by decide, by decide⟩ (Nat.le_of_ble_eq_true rfl) ?_
        rintro _ _ ⟨rfl, rfl⟩ -
        refine g_iconstN (n := 1) (pc' := 38) dX11_told_37 rfl ?_
        refine g_zret dX11_told_38 rfl (by rfl) (by decide) (by decide) ?_
        have e : sTold m (nI r) (nI f) = (1, stU m 166 (10 * r + f) (m 1 2)) := by unfold sTold; simp only [nI_clamp (show r < 2 ^ 31 by omega), nI_clamp (show f < 2 ^ 31 by omega)]; exact cif_t ⟨w2, w12, Classical.byContradiction c23⟩
        rw [e]
        exact ⟨rfl, ⟨hc.s, hc.e, hc.c1, hc.c2, hc.c3, hc.c4, hc.c5, hc.c6, hc.c7, hc.c8, C9_told hc.c9 (by omega) _, hc.c10, C11.same hc.c11 rfl rfl rfl rfl rfl rfl (fun _ => rfl) rfl, hc.c12, hc.c13⟩, mo_off rfl⟩
      ·
        refine g_iconstN (n := 0) (pc' := 27) dX11_told_26 rfl ?_
        refine g_zret dX11_told_27 rfl (by rfl) (by decide) (by decide) ?_
        have e : sTold m (nI r) (nI f) = (0, m) := by unfold sTold; simp only [nI_clamp (show r < 2 ^ 31 by omega), nI_clamp (show f < 2 ^ 31 by omega)]; exact cif_f (by rintro ⟨z0, z1, z2⟩; contradiction)
        rw [e]
        exact ⟨rfl, hc, rfl⟩
    ·
      refine g_invV (pc' := 15) (cx_familyAtN hok hc hw w12) dX11_told_12 rfl rfl ck_12 rfl ml_X11_192 im_X11_familyAt sl_X11_familyAt in_X11 co_X11_familyAt pd_X11_familyAt rfl (by omega) (by decide) ⟨by decide, by decide⟩ (Nat.le_of_ble_eq_true rfl) ?_
      rintro _ _ ⟨rfl, rfl⟩ -
      refine g_ifnullN (tgt := 26) dX11_told_15 (by decide) ?_
      refine g_iconstN (n := 0) (pc' := 27) dX11_told_26 rfl ?_
      refine g_zret dX11_told_27 rfl (by rfl) (by decide) (by decide) ?_
      have e : sTold m (nI r) k = (0, m) := by unfold sTold; simp only [nI_clamp (show r < 2 ^ 31 by omega)]; exact cif_f (by rintro ⟨z0, z1, z2⟩; contradiction)
      rw [e]
      exact ⟨rfl, hc, rfl⟩
  ·
    refine g_invV (pc' := 5) (cx_recallAtN hok hc hw w2) dX11_told_2 rfl rfl ck_12 rfl ml_X11_426 im_X11_recallAt sl_X11_recallAt in_X11 co_X11_recallAt pd_X11_recallAt rfl (by omega) (by decide) ⟨by decide, by decide⟩ (Nat.le_of_ble_eq_true rfl) ?_
    rintro _ _ ⟨rfl, rfl⟩ -
    refine g_astore_n (pc' := 6) dX11_told_5 rfl (by decide) rfl ?_
    try simp only [List.set]
    refine g_aload_n (pc' := 7) dX11_told_6 rfl rfl ?_
    refine g_ifnullN (tgt := 26) dX11_told_7 (by decide) ?_
    refine g_iconstN (n := 0) (pc' := 27) dX11_told_26 rfl ?_
    refine g_zret dX11_told_27 rfl (by rfl) (by decide) (by decide) ?_
    have e : sTold m x k = (0, m) := by exact cif_f (by rintro ⟨z0, z1, z2⟩; contradiction)
    rw [e]
    exact ⟨rfl, hc, rfl⟩
set_option maxRecDepth 4000 in
theorem cx_covers {E : En} (hok : EOK E) {h : Hp} {m : St} (hc : Cp m h) (hw : Wf m) {r t : Nat} (hr : r < nR m) (ht : t < nT m) : Call E m_X4_covers 1 0 0 [vR (5, r), vR (3, t)] h (fun r0 h' => r0 = some (vI (bi (isOfm m r t))) ∧ h = h') := by
  have hs := hc.s
  have hKb := hw.k.2
  have hTb := hw.t.2
  have hFb := hw.f.2
  have hRb := hw.r.2
  have hGb := hw.g.2
  have hAb := hw.a.2
  have hTlb := hw.tl.2
  have hNwb := hw.w.2
  have hkd := (hw.kd ht).2
  refine Call.enter hok (by decide) (Nat.le_of_ble_eq_true rfl) ?_
  show G E m_X4_covers 1 0 0 _ h 0 [some (vR (5, r)), some (vR (3, t))] [] h 0 0
  refine g_aload_n (pc' := 1) dX4_covers_0 rfl rfl ?_
  refine g_getR (pc' := 4) (k := 1) (r := some (2, kd m t)) dX4_covers_1 rfl rfl ck_9 (by decide) fl_X4_34 rfl ((hc.c6.2.1 _ (by omega)).1) ?_
  refine g_getIv (v := m 111 (kd m t)) (pc' := 7) (k := 4) dX4_covers_4 rfl rfl ck_3 (by decide) fl_X4_40 rfl (hc.k4 (k := kd m t) (by omega)) ?_
  refine g_aload_n (pc' := 8) dX4_covers_7 rfl rfl ?_
  refine g_getIv (v := m 161 (r)) (pc' := 11) (k := 0) dX4_covers_8 rfl rfl ck_5 (by decide) fl_X4_9 rfl (hc.r0 (r := r) (by omega)) ?_
  refine g_icmp_ne (tgt := 36) (pc' := 14) dX4_covers_11 rfl (by decide) (fun c11 => ?_) (fun c11 => ?_)
  ·
    refine g_iconstN (n := 0) (pc' := 37) dX4_covers_36 rfl ?_
    refine g_zret dX4_covers_37 rfl (by rfl) (by decide) (by decide) ?_
    exact ⟨congrArg (fun z : Int32 => some (vI z)) (bi_f (P := isOfm m r t) (fun z => c11 z.1.symm)).symm, rfl⟩
  ·
    refine g_aload_n (pc' := 15) dX4_covers_14 rfl rfl ?_
    refine g_getIv (v := m 116 (t)) (pc' := 18) (k := 2) dX4_covers_15 rfl rfl ck_9 (by decide) fl_X4_43 rfl (hc.t2 (t := t) (by omega)) ?_
    refine g_aload_n (pc' := 19) dX4_covers_18 rfl rfl ?_
    refine g_getIv (v := m 162 (r)) (pc' := 22) (k := 1) dX4_covers_19 rfl rfl ck_5 (by decide) fl_X4_15 rfl (hc.r1 (r := r) (by omega)) ?_
    refine g_aload_n (pc' := 23) dX4_covers_22 rfl rfl ?_
    refine g_getIv (v := m 163 (r)) (pc' := 26) (k := 2) dX4_covers_23 rfl rfl ck_5 (by decide) fl_X4_18 rfl (hc.r2 (r := r) (by omega)) ?_
    refine g_invSN (pc' := 29) (cx_within hok _ _ _) dX4_covers_26 rfl nn_X4_46 st_X11_within in_X11 co_X11_within pd_X11_within rfl (by omega) (by decide) ⟨by decide, by decide⟩ (Nat.le_of_ble_eq_true rfl) ?_
    rintro _ _ ⟨rfl, rfl⟩ -
    refine g_ifB_eq (tgt := 36) (pc' := 32) dX4_covers_29 rfl (by decide) (fun c29 => ?_) (fun c29 => ?_)
    ·
      refine g_iconstN (n := 0) (pc' := 37) dX4_covers_36 rfl ?_
      refine g_zret dX4_covers_37 rfl (by rfl) (by decide) (by decide) ?_
      exact ⟨congrArg (fun z : Int32 => some (vI z)) (bi_f (P := isOfm m r t) (fun z => c29 z.2)).symm, rfl⟩
    ·
      refine g_iconstN (n := 1) (pc' := 33) dX4_covers_32 rfl ?_
      refine g_goto (tgt := 37) dX4_covers_33 (by decide) ?_
      refine g_zret dX4_covers_37 rfl (by rfl) (by decide) (by decide) ?_
      exact ⟨congrArg (fun z : Int32 => some (vI z)) (bi_t (P := isOfm m r t) (⟨c11.symm, c29⟩)).symm, rfl⟩
set_option maxRecDepth 4000 in
theorem lx_isRecalled {E : En} (hok : EOK E) {h h0 : Hp} {m : St} (hc : Cp m h) (hw : Wf m) {t : Nat} (ht : t < nT m) {d : Nat} (hd : 3 ≤ d) {Q : Option V → Hp → Prop} (hQ : Q (some (vI (bi (isRec m t)))) h) : ∀ n r : Nat, r ≤ nR m → nR m - r = n → (∀ i, i < r → ¬ isOfm m i t) → G E m_X11_isRecalled d 0 0 Q h0 2 [some (vR TH), some (vR (3, t)), some (vI (nI r))] [] (h) 0 0 := by
  have hs := hc.s
  have hKb := hw.k.2
  have hTb := hw.t.2
  have hFb := hw.f.2
  have hRb := hw.r.2
  have hGb := hw.g.2
  have hAb := hw.a.2
  have hTlb := hw.tl.2
  have hNwb := hw.w.2
  intro n
  induction n with
  | zero =>
    intro r h1 h2 hi
    refine g_iload_n (pc' := 3) dX11_isRecalled_2 rfl rfl ?_
    refine g_aload_n (pc' := 4) dX11_isRecalled_3 rfl rfl ?_
    refine g_getS (pc' := 7) (k := 13) (b := (13, 3)) dX11_isRecalled_4 rfl rfl ck_12 (by decide) fl_X11_41 rfl hs rfl ?_
    refine g_invV (pc' := 10) (ls_size hok hc.c9.1) dX11_isRecalled_7 rfl rfl ck_0 rfl ml_X11_103 im_Jx4a65c_size_8abf5 sl_Jx4a65c_size_8abf5 in_Jx4a65c co_Jx4a65c_size_8abf5 pd_Jx4a65c_size_8abf5 rfl (by omega) (by decide) ⟨by decide, by decide⟩ (Nat.le_of_ble_eq_true rfl) ?_
    rintro _ _ ⟨rfl, rfl⟩ -
    refine g_icmp_geN (tgt := 39) (pc' := 13) dX11_isRecalled_10 rfl (by decide) (by omega) (by omega) (fun c10 => ?_) (fun c10 => ?_)
    ·
      refine g_iconstN (n := 0) (pc' := 40) dX11_isRecalled_39 rfl ?_
      refine g_zret dX11_isRecalled_40 rfl (by rfl) (by decide) (by decide) ?_
      rw [bi_f (P := isRec m t) (by rintro ⟨i, q1, q2⟩; exact hi i (by omega) q2)] at hQ
      exact hQ
    · exact absurd c10 (by omega)
  | succ n ih =>
    intro r h1 h2 hi
    refine g_iload_n (pc' := 3) dX11_isRecalled_2 rfl rfl ?_
    refine g_aload_n (pc' := 4) dX11_isRecalled_3 rfl rfl ?_
    refine g_getS (pc' := 7) (k := 13) (b := (13, 3)) dX11_isRecalled_4 rfl rfl ck_12 (by decide) fl_X11_41 rfl hs rfl ?_
    refine g_invV (pc' := 10) (ls_size hok hc.c9.1) dX11_isRecalled_7 rfl rfl ck_0 rfl ml_X11_103 im_Jx4a65c_size_8abf5 sl_Jx4a65c_size_8abf5 in_Jx4a65c co_Jx4a65c_size_8abf5 pd_Jx4a65c_size_8abf5 rfl (by omega) (by decide) ⟨by decide, by decide⟩ (Nat.le_of_ble_eq_true rfl) ?_
    rintro _ _ ⟨rfl, rfl⟩ -
    refine g_icmp_geN (tgt := 39) (pc' := 13) dX11_isRecalled_10 rfl (by decide) (by omega) (by omega) (fun c10 => ?_) (fun c10 => ?_)
    · exact absurd c10 (by omega)
    ·
      refine g_aload_n (pc' := 14) dX11_isRecalled_13 rfl rfl ?_
      refine g_getS (pc' := 17) (k := 13) (b := (13, 3)) dX11_isRecalled_14 rfl rfl ck_12 (by decide) fl_X11_41 rfl hs rfl ?_
      refine g_iload_n (pc' := 18) dX11_isRecalled_17 rfl rfl ?_
      refine g_invV (pc' := 21) (ls_get hok hc.c9.1 (j := r) (by omega) (by omega)) dX11_isRecalled_18 rfl rfl ck_0 rfl ml_X11_324 im_Jx4a65c_get_915e3 sl_Jx4a65c_get_915e3 in_Jx4a65c co_Jx4a65c_get_915e3 pd_Jx4a65c_get_915e3 rfl (by omega) (by decide) ⟨by decide, by decide⟩ (Nat.le_of_ble_eq_true rfl) ?_
      rintro _ _ ⟨rfl, rfl⟩ -
      refine g_cast (pc' := 24) dX11_isRecalled_21 rfl rfl ck_5 cl_X11_416 ?_
      refine g_aload_n (pc' := 25) dX11_isRecalled_24 rfl rfl ?_
      refine g_invV (pc' := 28) (cx_covers hok hc hw (r := r) (t := t) (by omega) (by omega)) dX11_isRecalled_25 rfl rfl ck_5 rfl ml_X11_455 im_X4_covers sl_X4_covers in_X4 co_X4_covers pd_X4_covers rfl (by omega) (by decide) ⟨by decide, by decide⟩ (Nat.le_of_ble_eq_true rfl) ?_
      rintro _ _ ⟨rfl, rfl⟩ -
      refine g_ifB_eq (tgt := 33) (pc' := 31) dX11_isRecalled_28 rfl (by decide) (fun c28 => ?_) (fun c28 => ?_)
      ·
        refine g_iincN (k := 1) (pc' := 36) dX11_isRecalled_33 rfl rfl (by decide) rfl ?_
        try simp only [List.set]
        refine g_goto (tgt := 2) dX11_isRecalled_36 (by decide) ?_
        exact ih (r + 1) (by omega) (by omega) (lt_s hi c28)
      ·
        refine g_iconstN (n := 1) (pc' := 32) dX11_isRecalled_31 rfl ?_
        refine g_zret dX11_isRecalled_32 rfl (by rfl) (by decide) (by decide) ?_
        rw [bi_t (P := isRec m t) ⟨r, by omega, c28⟩] at hQ
        exact hQ
set_option maxRecDepth 4000 in
theorem cx_isRecalled {E : En} (hok : EOK E) {h : Hp} {m : St} (hc : Cp m h) (hw : Wf m) {t : Nat} (ht : t < nT m) : Call E m_X11_isRecalled 3 0 0 [vR TH, vR (3, t)] h (fun r0 h' => r0 = some (vI (bi (isRec m t))) ∧ h = h') := by
  have hs := hc.s
  have hKb := hw.k.2
  have hTb := hw.t.2
  have hFb := hw.f.2
  have hRb := hw.r.2
  have hGb := hw.g.2
  have hAb := hw.a.2
  have hTlb := hw.tl.2
  have hNwb := hw.w.2
  refine Call.enter hok (by decide) (Nat.le_of_ble_eq_true rfl) ?_
  show G E m_X11_isRecalled 3 0 0 _ h 0 [some (vR TH), some (vR (3, t)), none] [] h 0 0
  refine g_iconstN (n := 0) (pc' := 1) dX11_isRecalled_0 rfl ?_
  refine g_istore_n (pc' := 2) dX11_isRecalled_1 rfl (by decide) rfl ?_
  try simp only [List.set]
  exact lx_isRecalled hok hc hw ht (Nat.le_refl _) ⟨rfl, rfl⟩ _ 0 (Nat.zero_le _) rfl (fun i q => absurd q (Nat.not_lt_zero i))
set_option maxRecDepth 4000 in
theorem lx_waitingFor {E : En} (hok : EOK E) {h h0 : Hp} {m : St} (hc : Cp m h) (hw : Wf m) {k : Nat} (hk : k < nK m) {d : Nat} (hd : 3 ≤ d) {Q : Option V → Hp → Prop} (hQ : Q (some (vI (nI (wfr m k)))) h) : ∀ n f : Nat, f ≤ nF m → nF m - f = n → G E m_X11_waitingFor d 0 0 Q h0 4 [some (vR TH), some (vR (2, k)), some (vI (nI (cnt (fun f => ¬ m 186 (8 * f + k) = -1) f))), some (vI (nI f))] [] (h) 0 0 := by
  have hs := hc.s
  have hKb := hw.k.2
  have hTb := hw.t.2
  have hFb := hw.f.2
  have hRb := hw.r.2
  have hGb := hw.g.2
  have hAb := hw.a.2
  have hTlb := hw.tl.2
  have hNwb := hw.w.2
  intro n
  induction n with
  | zero =>
    intro f h1 h2
    refine g_iload_n (pc' := 5) dX11_waitingFor_4 rfl rfl ?_
    refine g_aload_n (pc' := 6) dX11_waitingFor_5 rfl rfl ?_
    refine g_getS (pc' := 9) (k := 12) (b := (13, 2)) dX11_waitingFor_6 rfl rfl ck_12 (by decide) fl_X11_38 rfl hs rfl ?_
    refine g_invV (pc' := 12) (ls_size hok hc.c8.1) dX11_waitingFor_9 rfl rfl ck_0 rfl ml_X11_103 im_Jx4a65c_size_8abf5 sl_Jx4a65c_size_8abf5 in_Jx4a65c co_Jx4a65c_size_8abf5 pd_Jx4a65c_size_8abf5 rfl (by omega) (by decide) ⟨by decide, by decide⟩ (Nat.le_of_ble_eq_true rfl) ?_
    rintro _ _ ⟨rfl, rfl⟩ -
    refine g_icmp_geN (tgt := 45) (pc' := 15) dX11_waitingFor_12 rfl (by decide) (by omega) (by omega) (fun c12 => ?_) (fun c12 => ?_)
    ·
      refine g_iload_n (pc' := 46) dX11_waitingFor_45 rfl rfl ?_
      refine g_iret dX11_waitingFor_46 rfl (by decide) (by decide) ?_
      have e : f = nF m := by omega
      subst e
      exact hQ
    · exact absurd c12 (by omega)
  | succ n ih =>
    intro f h1 h2
    refine g_iload_n (pc' := 5) dX11_waitingFor_4 rfl rfl ?_
    refine g_aload_n (pc' := 6) dX11_waitingFor_5 rfl rfl ?_
    refine g_getS (pc' := 9) (k := 12) (b := (13, 2)) dX11_waitingFor_6 rfl rfl ck_12 (by decide) fl_X11_38 rfl hs rfl ?_
    refine g_invV (pc' := 12) (ls_size hok hc.c8.1) dX11_waitingFor_9 rfl rfl ck_0 rfl ml_X11_103 im_Jx4a65c_size_8abf5 sl_Jx4a65c_size_8abf5 in_Jx4a65c co_Jx4a65c_size_8abf5 pd_Jx4a65c_size_8abf5 rfl (by omega) (by decide) ⟨by decide, by decide⟩ (Nat.le_of_ble_eq_true rfl) ?_
    rintro _ _ ⟨rfl, rfl⟩ -
    refine g_icmp_geN (tgt := 45) (pc' := 15) dX11_waitingFor_12 rfl (by decide) (by omega) (by omega) (fun c12 => ?_) (fun c12 => ?_)
    · exact absurd c12 (by omega)
    ·
      refine g_aload_n (pc' := 16) dX11_waitingFor_15 rfl rfl ?_
      refine g_getS (pc' := 19) (k := 12) (b := (13, 2)) dX11_waitingFor_16 rfl rfl ck_12 (by decide) fl_X11_38 rfl hs rfl ?_
      refine g_iload_n (pc' := 20) dX11_waitingFor_19 rfl rfl ?_
      refine g_invV (pc' := 23) (ls_get hok hc.c8.1 (j := f) (by omega) (by omega)) dX11_waitingFor_20 rfl rfl ck_0 rfl ml_X11_324 im_Jx4a65c_get_915e3 sl_Jx4a65c_get_915e3 in_Jx4a65c co_Jx4a65c_get_915e3 pd_Jx4a65c_get_915e3 rfl (by omega) (by decide) ⟨by decide, by decide⟩ (Nat.le_of_ble_eq_true rfl) ?_
      rintro _ _ ⟨rfl, rfl⟩ -
      refine g_cast (pc' := 26) dX11_waitingFor_23 rfl rfl ck_2 cl_X11_139 ?_
      refine g_aload_n (pc' := 27) dX11_waitingFor_26 rfl rfl ?_
      refine g_getIv (v := nI (k)) (pc' := 30) (k := 0) dX11_waitingFor_27 rfl rfl ck_3 (by decide) fl_X11_116 rfl (hc.k0 (k := k) (by omega)) ?_
      refine g_invV (pc' := 33) (cx_isWaiting hok hc (f := f) (k := k) (by omega) (by omega)) dX11_waitingFor_30 rfl rfl ck_2 rfl ml_X11_335 im_X1_isWaiting sl_X1_isWaiting in_X1 co_X1_isWaiting pd_X1_isWaiting rfl (by omega) (by decide) ⟨by decide, by decide⟩ (Nat.le_of_ble_eq_true rfl) ?_
      rintro _ _ ⟨rfl, rfl⟩ -
      refine g_ifB_eq (tgt := 39) (pc' := 36) dX11_waitingFor_33 rfl (by decide) (fun c33 => ?_) (fun c33 => ?_)
      ·
        refine g_iincN (k := 1) (pc' := 42) dX11_waitingFor_39 rfl rfl (by decide) rfl ?_
        try simp only [List.set]
        refine g_goto (tgt := 4) dX11_waitingFor_42 (by decide) ?_
        have q := ih (f + 1) (by omega) (by omega)
        rw [cnt_f (p := (fun f => ¬ m 186 (8 * f + k) = -1)) c33, Nat.add_zero] at q
        exact q
      ·
        refine g_iincN (k := 1) (pc' := 39) dX11_waitingFor_36 rfl rfl (by decide) rfl ?_
        try simp only [List.set]
        refine g_iincN (k := 1) (pc' := 42) dX11_waitingFor_39 rfl rfl (by decide) rfl ?_
        try simp only [List.set]
        refine g_goto (tgt := 4) dX11_waitingFor_42 (by decide) ?_
        have q := ih (f + 1) (by omega) (by omega)
        rw [cnt_t (p := (fun f => ¬ m 186 (8 * f + k) = -1)) c33] at q
        exact q
set_option maxRecDepth 4000 in
theorem cx_waitingFor {E : En} (hok : EOK E) {h : Hp} {m : St} (hc : Cp m h) (hw : Wf m) {k : Nat} (hk : k < nK m) : Call E m_X11_waitingFor 3 0 0 [vR TH, vR (2, k)] h (fun r0 h' => r0 = some (vI (nI (wfr m k))) ∧ h = h') := by
  have hs := hc.s
  have hKb := hw.k.2
  have hTb := hw.t.2
  have hFb := hw.f.2
  have hRb := hw.r.2
  have hGb := hw.g.2
  have hAb := hw.a.2
  have hTlb := hw.tl.2
  have hNwb := hw.w.2
  refine Call.enter hok (by decide) (Nat.le_of_ble_eq_true rfl) ?_
  show G E m_X11_waitingFor 3 0 0 _ h 0 [some (vR TH), some (vR (2, k)), none, none] [] h 0 0
  refine g_iconstN (n := 0) (pc' := 1) dX11_waitingFor_0 rfl ?_
  refine g_istore_n (pc' := 2) dX11_waitingFor_1 rfl (by decide) rfl ?_
  try simp only [List.set]
  refine g_iconstN (n := 0) (pc' := 3) dX11_waitingFor_2 rfl ?_
  refine g_istore_n (pc' := 4) dX11_waitingFor_3 rfl (by decide) rfl ?_
  try simp only [List.set]
  exact lx_waitingFor hok hc hw hk (Nat.le_refl _) ⟨rfl, rfl⟩ _ 0 (Nat.zero_le _) rfl
set_option maxRecDepth 4000 in
theorem lx_lacking {E : En} (hok : EOK E) {h h0 : Hp} {m : St} (hc : Cp m h) (hw : Wf m) {t : Nat} (ht : t < nT m) {d : Nat} (hd : 0 ≤ d) {Q : Option V → Hp → Prop} (hQ : Q (some (vI (lck m t))) h) : ∀ n s : Nat, s ≤ 6 → 6 - s = n → G E m_X8_lacking d 0 0 Q h0 4 [some (vR (3, t)), some (vI (sm (fun s => m 113 (6 * kd m t + s) - m 125 (6 * t + s)) s)), some (vI (nI s))] [] (h) 0 0 := by
  have hs := hc.s
  have hKb := hw.k.2
  have hTb := hw.t.2
  have hFb := hw.f.2
  have hRb := hw.r.2
  have hGb := hw.g.2
  have hAb := hw.a.2
  have hTlb := hw.tl.2
  have hNwb := hw.w.2
  have hkd := (hw.kd ht).2
  intro n
  induction n with
  | zero =>
    intro s h1 h2
    refine g_iload_n (pc' := 5) dX8_lacking_4 rfl rfl ?_
    refine g_bipushN (n := 6) (pc' := 7) dX8_lacking_5 rfl (by decide) ?_
    refine g_icmp_geN (tgt := 35) (pc' := 10) dX8_lacking_7 rfl (by decide) (by omega) (by omega) (fun c7 => ?_) (fun c7 => ?_)
    ·
      refine g_iload_n (pc' := 36) dX8_lacking_35 rfl rfl ?_
      refine g_iret dX8_lacking_36 rfl (by decide) (by decide) ?_
      have e : s = 6 := by omega
      subst e
      exact hQ
    · exact absurd c7 (by omega)
  | succ n ih =>
    intro s h1 h2
    refine g_iload_n (pc' := 5) dX8_lacking_4 rfl rfl ?_
    refine g_bipushN (n := 6) (pc' := 7) dX8_lacking_5 rfl (by decide) ?_
    refine g_icmp_geN (tgt := 35) (pc' := 10) dX8_lacking_7 rfl (by decide) (by omega) (by omega) (fun c7 => ?_) (fun c7 => ?_)
    · exact absurd c7 (by omega)
    ·
      refine g_iload_n (pc' := 11) dX8_lacking_10 rfl rfl ?_
      refine g_aload_n (pc' := 12) dX8_lacking_11 rfl rfl ?_
      refine g_getR (pc' := 15) (k := 1) (r := some (2, kd m t)) dX8_lacking_12 rfl rfl ck_9 (by decide) fl_X8_15 rfl ((hc.c6.2.1 _ (by omega)).1) ?_
      refine g_getS (pc' := 18) (k := 6) (b := (24, kd m t)) dX8_lacking_15 rfl rfl ck_3 (by decide) fl_X8_22 rfl hs rfl ?_
      refine g_iload_n (pc' := 19) dX8_lacking_18 rfl rfl ?_
      refine g_ialdN (pc' := 20) (v := m 113 (6 * kd m t + s)) dX8_lacking_19 rfl rfl (by decide) (by omega) ((hc.c5.2.1 _ hkd).2.1 s (by omega)) ?_
      refine g_aload_n (pc' := 21) dX8_lacking_20 rfl rfl ?_
      refine g_getS (pc' := 24) (k := 3) (b := (26, t)) dX8_lacking_21 rfl rfl ck_9 (by decide) fl_X8_33 rfl hs rfl ?_
      refine g_iload_n (pc' := 25) dX8_lacking_24 rfl rfl ?_
      refine g_ialdN (pc' := 26) (v := m 125 (6 * t + s)) dX8_lacking_25 rfl rfl (by decide) (by omega) ((hc.c6.2.1 t ht).2.2 s (by omega)) ?_
      refine g_isub (pc' := 27) dX8_lacking_26 rfl ?_
      refine g_iadd (pc' := 28) dX8_lacking_27 rfl ?_
      refine g_istore_n (pc' := 29) dX8_lacking_28 rfl (by decide) rfl ?_
      try simp only [List.set]
      refine g_iincN (k := 1) (pc' := 32) dX8_lacking_29 rfl rfl (by decide) rfl ?_
      try simp only [List.set]
      refine g_goto (tgt := 4) dX8_lacking_32 (by decide) ?_
      exact ih (s + 1) (by omega) (by omega)
set_option maxRecDepth 4000 in
theorem cx_lacking {E : En} (hok : EOK E) {h : Hp} {m : St} (hc : Cp m h) (hw : Wf m) {t : Nat} (ht : t < nT m) : Call E m_X8_lacking 0 0 0 [vR (3, t)] h (fun r0 h' => r0 = some (vI (lck m t)) ∧ h = h') := by
  have hs := hc.s
  have hKb := hw.k.2
  have hTb := hw.t.2
  have hFb := hw.f.2
  have hRb := hw.r.2
  have hGb := hw.g.2
  have hAb := hw.a.2
  have hTlb := hw.tl.2
  have hNwb := hw.w.2
  refine Call.enter hok (by decide) (Nat.le_of_ble_eq_true rfl) ?_
  show G E m_X8_lacking 0 0 0 _ h 0 [some (vR (3, t)), none, none] [] h 0 0
  refine g_iconst (v := 0) (pc' := 1) dX8_lacking_0 rfl (by decide) ?_
  refine g_istore_n (pc' := 2) dX8_lacking_1 rfl (by decide) rfl ?_
  try simp only [List.set]
  refine g_iconstN (n := 0) (pc' := 3) dX8_lacking_2 rfl ?_
  refine g_istore_n (pc' := 4) dX8_lacking_3 rfl (by decide) rfl ?_
  try simp only [List.set]
  exact lx_lacking hok hc hw ht (Nat.le_refl _) ⟨rfl, rfl⟩ _ 0 (Nat.zero_le _) rfl
set_option maxRecDepth 4000 in
theorem lx_weightOfPieces {E : En} (hok : EOK E) {h h0 : Hp} {m : St} (hc : Cp m h) (hw : Wf m) {t : Nat} (ht : t < nT m) {d : Nat} (hd : 0 ≤ d) {Q : Option V → Hp → Prop} (hQ : Q (some (vI (sm (fun s => m 125 (6 * t + s) * m 114 (6 * kd m t + s)) 6))) h) : ∀ n s : Nat, s ≤ 6 → 6 - s = n → G E m_X8_weightOfPieces d 0 0 Q h0 4 [some (vR (3, t)), some (vI (sm (fun s => m 125 (6 * t + s) * m 114 (6 * kd m t + s)) s)), some (vI (nI s))] [] (h) 0 0 := by
  have hs := hc.s
  have hKb := hw.k.2
  have hTb := hw.t.2
  have hFb := hw.f.2
  have hRb := hw.r.2
  have hGb := hw.g.2
  have hAb := hw.a.2
  have hTlb := hw.tl.2
  have hNwb := hw.w.2
  have hkd := (hw.kd ht).2
  intro n
  induction n with
  | zero =>
    intro s h1 h2
    refine g_iload_n (pc' := 5) dX8_weightOfPieces_4 rfl rfl ?_
    refine g_bipushN (n := 6) (pc' := 7) dX8_weightOfPieces_5 rfl (by decide) ?_
    refine g_icmp_geN (tgt := 35) (pc' := 10) dX8_weightOfPieces_7 rfl (by decide) (by omega) (by omega) (fun c7 => ?_) (fun c7 => ?_)
    ·
      refine g_iload_n (pc' := 36) dX8_weightOfPieces_35 rfl rfl ?_
      refine g_iret dX8_weightOfPieces_36 rfl (by decide) (by decide) ?_
      have e : s = 6 := by omega
      subst e
      exact hQ
    · exact absurd c7 (by omega)
  | succ n ih =>
    intro s h1 h2
    refine g_iload_n (pc' := 5) dX8_weightOfPieces_4 rfl rfl ?_
    refine g_bipushN (n := 6) (pc' := 7) dX8_weightOfPieces_5 rfl (by decide) ?_
    refine g_icmp_geN (tgt := 35) (pc' := 10) dX8_weightOfPieces_7 rfl (by decide) (by omega) (by omega) (fun c7 => ?_) (fun c7 => ?_)
    · exact absurd c7 (by omega)
    ·
      refine g_iload_n (pc' := 11) dX8_weightOfPieces_10 rfl rfl ?_
      refine g_aload_n (pc' := 12) dX8_weightOfPieces_11 rfl rfl ?_
      refine g_getS (pc' := 15) (k := 3) (b := (26, t)) dX8_weightOfPieces_12 rfl rfl ck_9 (by decide) fl_X8_33 rfl hs rfl ?_
      refine g_iload_n (pc' := 16) dX8_weightOfPieces_15 rfl rfl ?_
      refine g_ialdN (pc' := 17) (v := m 125 (6 * t + s)) dX8_weightOfPieces_16 rfl rfl (by decide) (by omega) ((hc.c6.2.1 t ht).2.2 s (by omega)) ?_
      refine g_aload_n (pc' := 18) dX8_weightOfPieces_17 rfl rfl ?_
      refine g_getR (pc' := 21) (k := 1) (r := some (2, kd m t)) dX8_weightOfPieces_18 rfl rfl ck_9 (by decide) fl_X8_15 rfl ((hc.c6.2.1 _ (by omega)).1) ?_
      refine g_getS (pc' := 24) (k := 7) (b := (25, kd m t)) dX8_weightOfPieces_21 rfl rfl ck_3 (by decide) fl_X8_88 rfl hs rfl ?_
      refine g_iload_n (pc' := 25) dX8_weightOfPieces_24 rfl rfl ?_
      refine g_ialdN (pc' := 26) (v := m 114 (6 * kd m t + s)) dX8_weightOfPieces_25 rfl rfl (by decide) (by omega) ((hc.c5.2.1 _ hkd).2.2 s (by omega)) ?_
      refine g_imul (pc' := 27) dX8_weightOfPieces_26 rfl ?_
      refine g_iadd (pc' := 28) dX8_weightOfPieces_27 rfl ?_
      refine g_istore_n (pc' := 29) dX8_weightOfPieces_28 rfl (by decide) rfl ?_
      try simp only [List.set]
      refine g_iincN (k := 1) (pc' := 32) dX8_weightOfPieces_29 rfl rfl (by decide) rfl ?_
      try simp only [List.set]
      refine g_goto (tgt := 4) dX8_weightOfPieces_32 (by decide) ?_
      exact ih (s + 1) (by omega) (by omega)
set_option maxRecDepth 4000 in
theorem cx_weightOfPieces {E : En} (hok : EOK E) {h : Hp} {m : St} (hc : Cp m h) (hw : Wf m) {t : Nat} (ht : t < nT m) : Call E m_X8_weightOfPieces 0 0 0 [vR (3, t)] h (fun r0 h' => r0 = some (vI (sm (fun s => m 125 (6 * t + s) * m 114 (6 * kd m t + s)) 6)) ∧ h = h') := by
  have hs := hc.s
  have hKb := hw.k.2
  have hTb := hw.t.2
  have hFb := hw.f.2
  have hRb := hw.r.2
  have hGb := hw.g.2
  have hAb := hw.a.2
  have hTlb := hw.tl.2
  have hNwb := hw.w.2
  refine Call.enter hok (by decide) (Nat.le_of_ble_eq_true rfl) ?_
  show G E m_X8_weightOfPieces 0 0 0 _ h 0 [some (vR (3, t)), none, none] [] h 0 0
  refine g_iconst (v := 0) (pc' := 1) dX8_weightOfPieces_0 rfl (by decide) ?_
  refine g_istore_n (pc' := 2) dX8_weightOfPieces_1 rfl (by decide) rfl ?_
  try simp only [List.set]
  refine g_iconstN (n := 0) (pc' := 3) dX8_weightOfPieces_2 rfl ?_
  refine g_istore_n (pc' := 4) dX8_weightOfPieces_3 rfl (by decide) rfl ?_
  try simp only [List.set]
  exact lx_weightOfPieces hok hc hw ht (Nat.le_refl _) ⟨rfl, rfl⟩ _ 0 (Nat.zero_le _) rfl
set_option maxRecDepth 4000 in
theorem lx_piecesTogether {E : En} (hok : EOK E) {h h0 : Hp} {m : St} (hc : Cp m h) (hw : Wf m) {t : Nat} (ht : t < nT m) {d : Nat} (hd : 0 ≤ d) {Q : Option V → Hp → Prop} (hQ : Q (some (vI (sm (fun s => m 125 (6 * t + s)) 6))) h) : ∀ n s : Nat, s ≤ 6 → 6 - s = n → G E m_X8_piecesTogether d 0 0 Q h0 4 [some (vR (3, t)), some (vI (sm (fun s => m 125 (6 * t + s)) s)), some (vI (nI s))] [] (h) 0 0 := by
  have hs := hc.s
  have hKb := hw.k.2
  have hTb := hw.t.2
  have hFb := hw.f.2
  have hRb := hw.r.2
  have hGb := hw.g.2
  have hAb := hw.a.2
  have hTlb := hw.tl.2
  have hNwb := hw.w.2
  have hkd := (hw.kd ht).2
  intro n
  induction n with
  | zero =>
    intro s h1 h2
    refine g_iload_n (pc' := 5) dX8_piecesTogether_4 rfl rfl ?_
    refine g_bipushN (n := 6) (pc' := 7) dX8_piecesTogether_5 rfl (by decide) ?_
    refine g_icmp_geN (tgt := 25) (pc' := 10) dX8_piecesTogether_7 rfl (by decide) (by omega) (by omega) (fun c7 => ?_) (fun c7 => ?_)
    ·
      refine g_iload_n (pc' := 26) dX8_piecesTogether_25 rfl rfl ?_
      refine g_iret dX8_piecesTogether_26 rfl (by decide) (by decide) ?_
      have e : s = 6 := by omega
      subst e
      exact hQ
    · exact absurd c7 (by omega)
  | succ n ih =>
    intro s h1 h2
    refine g_iload_n (pc' := 5) dX8_piecesTogether_4 rfl rfl ?_
    refine g_bipushN (n := 6) (pc' := 7) dX8_piecesTogether_5 rfl (by decide) ?_
    refine g_icmp_geN (tgt := 25) (pc' := 10) dX8_piecesTogether_7 rfl (by decide) (by omega) (by omega) (fun c7 => ?_) (fun c7 => ?_)
    · exact absurd c7 (by omega)
    ·
      refine g_iload_n (pc' := 11) dX8_piecesTogether_10 rfl rfl ?_
      refine g_aload_n (pc' := 12) dX8_piecesTogether_11 rfl rfl ?_
      refine g_getS (pc' := 15) (k := 3) (b := (26, t)) dX8_piecesTogether_12 rfl rfl ck_9 (by decide) fl_X8_33 rfl hs rfl ?_
      refine g_iload_n (pc' := 16) dX8_piecesTogether_15 rfl rfl ?_
      refine g_ialdN (pc' := 17) (v := m 125 (6 * t + s)) dX8_piecesTogether_16 rfl rfl (by decide) (by omega) ((hc.c6.2.1 t ht).2.2 s (by omega)) ?_
      refine g_iadd (pc' := 18) dX8_piecesTogether_17 rfl ?_
      refine g_istore_n (pc' := 19) dX8_piecesTogether_18 rfl (by decide) rfl ?_
      try simp only [List.set]
      refine g_iincN (k := 1) (pc' := 22) dX8_piecesTogether_19 rfl rfl (by decide) rfl ?_
      try simp only [List.set]
      refine g_goto (tgt := 4) dX8_piecesTogether_22 (by decide) ?_
      exact ih (s + 1) (by omega) (by omega)
set_option maxRecDepth 4000 in
theorem cx_piecesTogether {E : En} (hok : EOK E) {h : Hp} {m : St} (hc : Cp m h) (hw : Wf m) {t : Nat} (ht : t < nT m) : Call E m_X8_piecesTogether 0 0 0 [vR (3, t)] h (fun r0 h' => r0 = some (vI (sm (fun s => m 125 (6 * t + s)) 6)) ∧ h = h') := by
  have hs := hc.s
  have hKb := hw.k.2
  have hTb := hw.t.2
  have hFb := hw.f.2
  have hRb := hw.r.2
  have hGb := hw.g.2
  have hAb := hw.a.2
  have hTlb := hw.tl.2
  have hNwb := hw.w.2
  refine Call.enter hok (by decide) (Nat.le_of_ble_eq_true rfl) ?_
  show G E m_X8_piecesTogether 0 0 0 _ h 0 [some (vR (3, t)), none, none] [] h 0 0
  refine g_iconst (v := 0) (pc' := 1) dX8_piecesTogether_0 rfl (by decide) ?_
  refine g_istore_n (pc' := 2) dX8_piecesTogether_1 rfl (by decide) rfl ?_
  try simp only [List.set]
  refine g_iconstN (n := 0) (pc' := 3) dX8_piecesTogether_2 rfl ?_
  refine g_istore_n (pc' := 4) dX8_piecesTogether_3 rfl (by decide) rfl ?_
  try simp only [List.set]
  exact lx_piecesTogether hok hc hw ht (Nat.le_refl _) ⟨rfl, rfl⟩ _ 0 (Nat.zero_le _) rfl
set_option maxRecDepth 4000 in
theorem cx_isWorn {E : En} (hok : EOK E) {h : Hp} {m : St} (hc : Cp m h) (hw : Wf m) {t : Nat} (ht : t < nT m) : Call E m_X8_isWorn 0 0 0 [vR (3, t)] h (fun r0 h' => r0 = some (vI (bi (m 112 (kd m t) ≤ m 117 t))) ∧ h = h') := by
  have hs := hc.s
  have hKb := hw.k.2
  have hTb := hw.t.2
  have hFb := hw.f.2
  have hRb := hw.r.2
  have hGb := hw.g.2
  have hAb := hw.a.2
  have hTlb := hw.tl.2
  have hNwb := hw.w.2
  have hkd := (hw.kd ht).2
  refine Call.enter hok (by decide) (Nat.le_of_ble_eq_true rfl) ?_
  show G E m_X8_isWorn 0 0 0 _ h 0 [some (vR (3, t))] [] h 0 0
  refine g_aload_n (pc' := 1) dX8_isWorn_0 rfl rfl ?_
  refine g_getIv (v := m 117 (t)) (pc' := 4) (k := 12) dX8_isWorn_1 rfl rfl ck_9 (by decide) fl_X8_76 rfl (hc.t12 (t := t) (by omega)) ?_
  refine g_aload_n (pc' := 5) dX8_isWorn_4 rfl rfl ?_
  refine g_getR (pc' := 8) (k := 1) (r := some (2, kd m t)) dX8_isWorn_5 rfl rfl ck_9 (by decide) fl_X8_15 rfl ((hc.c6.2.1 _ (by omega)).1) ?_
  refine g_getIv (v := m 112 (kd m t)) (pc' := 11) (k := 5) dX8_isWorn_8 rfl rfl ck_3 (by decide) fl_X8_85 rfl (hc.k5 (k := kd m t) (by omega)) ?_
  refine g_icmp_lt (tgt := 18) (pc' := 14) dX8_isWorn_11 rfl (by decide) (fun c11 => ?_) (fun c11 => ?_)
  ·
    refine g_iconstN (n := 0) (pc' := 19) dX8_isWorn_18 rfl ?_
    refine g_zret dX8_isWorn_19 rfl (by rfl) (by decide) (by decide) ?_
    exact ⟨congrArg (fun z : Int32 => some (vI z)) (bi_f (P := m 112 (kd m t) ≤ m 117 t) (fun z => absurd z (Int32.not_le.mpr c11))).symm, rfl⟩
  ·
    refine g_iconstN (n := 1) (pc' := 15) dX8_isWorn_14 rfl ?_
    refine g_goto (tgt := 19) dX8_isWorn_15 (by decide) ?_
    refine g_zret dX8_isWorn_19 rfl (by rfl) (by decide) (by decide) ?_
    exact ⟨congrArg (fun z : Int32 => some (vI z)) (bi_t (P := m 112 (kd m t) ≤ m 117 t) (Int32.not_lt.mp c11)).symm, rfl⟩
set_option maxRecDepth 4000 in
theorem cx_isToWash {E : En} (hok : EOK E) {h : Hp} {m : St} (hc : Cp m h) (hw : Wf m) {t : Nat} (ht : t < nT m) : Call E m_X11_isToWash 0 0 0 [vR TH, vR (3, t)] h (fun r0 h' => r0 = some (vI (bi (m 118 t = 0 ∧ ¬ m 124 t = 0))) ∧ h = h') := by
  have hs := hc.s
  have hKb := hw.k.2
  have hTb := hw.t.2
  have hFb := hw.f.2
  have hRb := hw.r.2
  have hGb := hw.g.2
  have hAb := hw.a.2
  have hTlb := hw.tl.2
  have hNwb := hw.w.2
  refine Call.enter hok (by decide) (Nat.le_of_ble_eq_true rfl) ?_
  show G E m_X11_isToWash 0 0 0 _ h 0 [some (vR TH), some (vR (3, t))] [] h 0 0
  refine g_aload_n (pc' := 1) dX11_isToWash_0 rfl rfl ?_
  refine g_getIv (v := m 118 (t)) (pc' := 4) (k := 7) dX11_isToWash_1 rfl rfl ck_9 (by decide) fl_X11_264 rfl (hc.t7 (t := t) (by omega)) ?_
  refine g_if_ne (tgt := 18) (pc' := 7) dX11_isToWash_4 rfl (by decide) (fun c4 => ?_) (fun c4 => ?_)
  ·
    refine g_iconstN (n := 0) (pc' := 19) dX11_isToWash_18 rfl ?_
    refine g_zret dX11_isToWash_19 rfl (by rfl) (by decide) (by decide) ?_
    exact ⟨congrArg (fun z : Int32 => some (vI z)) (bi_f (P := m 118 t = 0 ∧ ¬ m 124 t = 0) (fun z => c4 z.1)).symm, rfl⟩
  ·
    refine g_aload_n (pc' := 8) dX11_isToWash_7 rfl rfl ?_
    refine g_getIv (v := m 124 (t)) (pc' := 11) (k := 14) dX11_isToWash_8 rfl rfl ck_9 (by decide) fl_X11_260 rfl (hc.t14 (t := t) (by omega)) ?_
    refine g_if_eq (tgt := 18) (pc' := 14) dX11_isToWash_11 rfl (by decide) (fun c11 => ?_) (fun c11 => ?_)
    ·
      refine g_iconstN (n := 0) (pc' := 19) dX11_isToWash_18 rfl ?_
      refine g_zret dX11_isToWash_19 rfl (by rfl) (by decide) (by decide) ?_
      exact ⟨congrArg (fun z : Int32 => some (vI z)) (bi_f (P := m 118 t = 0 ∧ ¬ m 124 t = 0) (fun z => z.2 c11)).symm, rfl⟩
    ·
      refine g_iconstN (n := 1) (pc' := 15) dX11_isToWash_14 rfl ?_
      refine g_goto (tgt := 19) dX11_isToWash_15 (by decide) ?_
      refine g_zret dX11_isToWash_19 rfl (by rfl) (by decide) (by decide) ?_
      exact ⟨congrArg (fun z : Int32 => some (vI z)) (bi_t (P := m 118 t = 0 ∧ ¬ m 124 t = 0) (⟨c4, c11⟩)).symm, rfl⟩
