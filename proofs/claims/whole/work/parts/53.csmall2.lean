set_option maxRecDepth 4000 in
theorem lx_placeOf {E : En} (hok : EOK E) {h h0 : Hp} {m : St} (hc : Cp m h) (hw : Wf m) (t : Nat) (x y : Int32) {d : Nat} {Q : Option V → Hp → Prop} (hQ : Q (some (vI (whr m t x y (nA m)))) h) : ∀ n : Nat, n ≤ nA m → whr m t x y (nA m) = whr m t x y n → G E m_X0_placeOf d 0 0 Q h0 14 [some (vR (8, 0)), some (vI (nI t)), some (vI x), some (vI y), some (vI (nI n - nI 1))] [] h 0 0 := by
  have hs := hc.s
  have hKb := hw.k.2
  have hTb := hw.t.2
  have hFb := hw.f.2
  have hRb := hw.r.2
  have hGb := hw.g.2
  have hAb := hw.a.2
  have hTlb := hw.tl.2
  have hNwb := hw.w.2
  intro n
  induction n with
  | zero =>
    intro h1 h2
    refine g_iload (pc' := 16) dX0_placeOf_14 rfl rfl ?_
    refine g_if_lt (tgt := 66) (pc' := 19) dX0_placeOf_16 rfl (by decide) (fun c16 => ?_) (fun c16 => ?_)
    ·
      refine g_iconstN (n := 0) (pc' := 67) dX0_placeOf_66 rfl ?_
      refine g_iret dX0_placeOf_67 rfl (by decide) (by decide) ?_
      rw [h2] at hQ
      exact hQ
    · exact absurd (by decide) c16
  | succ n ih =>
    intro h1 h2
    have e1 : nI (n + 1) - nI 1 = nI n := nI_pred n
    rw [e1]
    refine g_iload (pc' := 16) dX0_placeOf_14 rfl rfl ?_
    refine g_if_lt (tgt := 66) (pc' := 19) dX0_placeOf_16 rfl (by decide) (fun c16 => ?_) (fun c16 => ?_)
    · exact absurd c16 (nI_pos (by omega))
    ·
      refine g_aload_n (pc' := 20) dX0_placeOf_19 rfl rfl ?_
      refine g_getS (pc' := 23) (k := 0) (b := (31, 0)) dX0_placeOf_20 rfl rfl ck_1 (by decide) fl_X0_9 rfl hs rfl ?_
      refine g_iload (pc' := 25) dX0_placeOf_23 rfl rfl ?_
      refine g_ialdN (pc' := 26) (v := m 172 n) dX0_placeOf_25 rfl rfl (by decide) (by omega) ((hc.c10.2.2 n (by omega)).1) ?_
      refine g_iload_n (pc' := 27) dX0_placeOf_26 rfl rfl ?_
      refine g_icmp_ne (tgt := 60) (pc' := 30) dX0_placeOf_27 rfl (by decide) (fun c27 => ?_) (fun c27 => ?_)
      ·
        refine g_iinc (v := nI n - nI 1) (pc' := 63) dX0_placeOf_60 rfl rfl (by rw [Int32.sub_eq_add_neg]; rfl) (by decide) rfl ?_
        try simp only [List.set]
        refine g_goto (tgt := 14) dX0_placeOf_63 (by decide) ?_
        exact ih (by omega) (h2.trans (cif_f (P := m 172 n = nI t ∧ m 174 n ≤ x ∧ m 175 n ≤ y) (fun z => c27 z.1)))
      ·
        refine g_aload_n (pc' := 31) dX0_placeOf_30 rfl rfl ?_
        refine g_getS (pc' := 34) (k := 1) (b := (32, 0)) dX0_placeOf_31 rfl rfl ck_1 (by decide) fl_X0_15 rfl hs rfl ?_
        refine g_iload (pc' := 36) dX0_placeOf_34 rfl rfl ?_
        refine g_ialdN (pc' := 37) (v := m 174 n) dX0_placeOf_36 rfl rfl (by decide) (by omega) ((hc.c10.2.2 n (by omega)).2.1) ?_
        refine g_iload_n (pc' := 38) dX0_placeOf_37 rfl rfl ?_
        refine g_icmp_gt (tgt := 60) (pc' := 41) dX0_placeOf_38 rfl (by decide) (fun c38 => ?_) (fun c38 => ?_)
        ·
          refine g_iinc (v := nI n - nI 1) (pc' := 63) dX0_placeOf_60 rfl rfl (by rw [Int32.sub_eq_add_neg]; rfl) (by decide) rfl ?_
          try simp only [List.set]
          refine g_goto (tgt := 14) dX0_placeOf_63 (by decide) ?_
          exact ih (by omega) (h2.trans (cif_f (P := m 172 n = nI t ∧ m 174 n ≤ x ∧ m 175 n ≤ y) (fun z => absurd z.2.1 (Int32.not_le.mpr c38))))
        ·
          refine g_aload_n (pc' := 42) dX0_placeOf_41 rfl rfl ?_
          refine g_getS (pc' := 45) (k := 2) (b := (33, 0)) dX0_placeOf_42 rfl rfl ck_1 (by decide) fl_X0_18 rfl hs rfl ?_
          refine g_iload (pc' := 47) dX0_placeOf_45 rfl rfl ?_
          refine g_ialdN (pc' := 48) (v := m 175 n) dX0_placeOf_47 rfl rfl (by decide) (by omega) ((hc.c10.2.2 n (by omega)).2.2.1) ?_
          refine g_iload_n (pc' := 49) dX0_placeOf_48 rfl rfl ?_
          refine g_icmp_gt (tgt := 60) (pc' := 52) dX0_placeOf_49 rfl (by decide) (fun c49 => ?_) (fun c49 => ?_)
          ·
            refine g_iinc (v := nI n - nI 1) (pc' := 63) dX0_placeOf_60 rfl rfl (by rw [Int32.sub_eq_add_neg]; rfl) (by decide) rfl ?_
            try simp only [List.set]
            refine g_goto (tgt := 14) dX0_placeOf_63 (by decide) ?_
            exact ih (by omega) (h2.trans (cif_f (P := m 172 n = nI t ∧ m 174 n ≤ x ∧ m 175 n ≤ y) (fun z => absurd z.2.2 (Int32.not_le.mpr c49))))
          ·
            refine g_aload_n (pc' := 53) dX0_placeOf_52 rfl rfl ?_
            refine g_getS (pc' := 56) (k := 3) (b := (34, 0)) dX0_placeOf_53 rfl rfl ck_1 (by decide) fl_X0_21 rfl hs rfl ?_
            refine g_iload (pc' := 58) dX0_placeOf_56 rfl rfl ?_
            refine g_ialdN (pc' := 59) (v := m 173 n) dX0_placeOf_58 rfl rfl (by decide) (by omega) ((hc.c10.2.2 n (by omega)).2.2.2) ?_
            refine g_iret dX0_placeOf_59 rfl (by decide) (by decide) ?_
            rw [h2.trans (cif_t (P := m 172 n = nI t ∧ m 174 n ≤ x ∧ m 175 n ≤ y) ⟨c27, Int32.not_lt.mp c38, Int32.not_lt.mp c49⟩)] at hQ
            exact hQ
set_option maxRecDepth 4000 in
theorem cx_placeOf {E : En} (hok : EOK E) {h : Hp} {m : St} (hc : Cp m h) (hw : Wf m) (t : Nat) (x y : Int32) : Call E m_X0_placeOf 1 0 0 [vR (8, 0), vI (nI t), vI x, vI y] h (fun r0 h' => r0 = some (vI (whr m t x y (nA m))) ∧ h = h') := by
  have hs := hc.s
  have hKb := hw.k.2
  have hTb := hw.t.2
  have hFb := hw.f.2
  have hRb := hw.r.2
  have hGb := hw.g.2
  have hAb := hw.a.2
  have hTlb := hw.tl.2
  have hNwb := hw.w.2
  refine Call.enter hok (by decide) (Nat.le_of_ble_eq_true rfl) ?_
  show G E m_X0_placeOf 1 0 0 _ h 0 [some (vR (8, 0)), some (vI (nI t)), some (vI x), some (vI y), none] [] h 0 0
  refine g_aload_n (pc' := 1) dX0_placeOf_0 rfl rfl ?_
  refine g_getIv (v := nI (nA m)) (pc' := 4) (k := 4) dX0_placeOf_1 rfl rfl ck_1 (by decide) fl_X0_24 rfl (hc.c10.1.trans hw.a.1) ?_
  refine g_sipushN (n := 600) (pc' := 7) dX0_placeOf_4 rfl (by decide) ?_
  refine g_min (pc' := 10) dX0_placeOf_7 rfl ml_X0_28 mn_s in_J9 mn_c (by omega) (by decide) (by decide) (Nat.le_of_ble_eq_true rfl) ?_
  rw [show (if nI 600 < nI (nA m) then nI 600 else nI (nA m)) = nI (nA m) from if_neg (fun z => by rw [nI_ltI (by omega) (by omega)] at z; omega)]
  refine g_iconstN (n := 1) (pc' := 11) dX0_placeOf_10 rfl ?_
  refine g_isub (pc' := 12) dX0_placeOf_11 rfl ?_
  refine g_istore (pc' := 14) dX0_placeOf_12 rfl (by decide) rfl ?_
  try simp only [List.set]
  exact lx_placeOf hok hc hw t x y ⟨rfl, rfl⟩ _ (Nat.le_refl _) rfl
set_option maxRecDepth 4000 in
theorem cx_where {E : En} (hok : EOK E) {h : Hp} {m : St} (hc : Cp m h) (hw : Wf m) (t0 : Int32) (x : Int32) (y : Int32) : Call E m_X11_where 4 0 0 [vR TH, vI t0, vI x, vI y] h (fun r h' => r = some (vI (sWhere m t0 x y).1) ∧ Cp (sWhere m t0 x y).2 h' ∧ mo h' = mo h) := by
  have hs := hc.s
  have hKb := hw.k.2
  have hTb := hw.t.2
  have hFb := hw.f.2
  have hRb := hw.r.2
  have hGb := hw.g.2
  have hAb := hw.a.2
  have hTlb := hw.tl.2
  have hNwb := hw.w.2
  refine Call.enter hok (by decide) (Nat.le_of_ble_eq_true rfl) ?_
  show G E m_X11_where 4 0 0 _ h 0 [some (vR TH), some (vI t0), some (vI x), some (vI y)] [] h 0 0
  refine g_aload_n (pc' := 1) dX11_where_0 rfl rfl ?_
  refine g_iload_n (pc' := 2) dX11_where_1 rfl rfl ?_
  rcases Classical.em (∃ j : Nat, j < nT m ∧ t0 = nI j) with w2 | w2
  ·
    have k2 := w2
    obtain ⟨t, ht, rfl⟩ := k2
    refine g_invV (pc' := 5) (cx_toyAt hok hc hw ht) dX11_where_2 rfl rfl ck_12 rfl ml_X11_151 im_X11_toyAt sl_X11_toyAt in_X11 co_X11_toyAt pd_X11_toyAt rfl (by omega) (by decide) ⟨by decide, by decide⟩ (Nat.le_of_ble_eq_true rfl) ?_
    rintro _ _ ⟨rfl, rfl⟩ -
    refine g_ifnull (pc' := 8) dX11_where_5 rfl ?_
    refine g_iload_n (pc' := 9) dX11_where_8 rfl rfl ?_
    refine g_iconstN (n := 0) (pc' := 10) dX11_where_9 rfl ?_
    refine g_aload_n (pc' := 11) dX11_where_10 rfl rfl ?_
    refine g_getIv (v := m 1 2) (pc' := 14) (k := 0) dX11_where_11 rfl rfl ck_12 (by decide) fl_X11_95 rfl (hc.c1.1) ?_
    refine g_invS (pc' := 17) (cx_within hok _ _ _) dX11_where_14 rfl ml_X11_99 st_X11_within in_X11 co_X11_within pd_X11_within rfl (by omega) (by decide) ⟨by decide, by decide⟩ (Nat.le_of_ble_eq_true rfl) ?_
    rintro _ _ ⟨rfl, rfl⟩ -
    refine g_ifB_eq (tgt := 31) (pc' := 20) dX11_where_17 rfl (by decide) (fun c17 => ?_) (fun c17 => ?_)
    ·
      refine g_iconst (v := -1) (pc' := 32) dX11_where_31 rfl (by decide) ?_
      refine g_iret dX11_where_32 rfl (by decide) (by decide) ?_
      have e : sWhere m (nI t) x y = (-1, m) := cif_f (fun z => c17 z.2.1)
      rw [e]
      exact ⟨rfl, hc, rfl⟩
    ·
      refine g_iload_n (pc' := 21) dX11_where_20 rfl rfl ?_
      refine g_iload_n (pc' := 22) dX11_where_21 rfl rfl ?_
      refine g_sipushN (n := 699) (pc' := 25) dX11_where_22 rfl (by decide) ?_
      refine g_invS (pc' := 28) (cx_within hok _ _ _) dX11_where_25 rfl ml_X11_99 st_X11_within in_X11 co_X11_within pd_X11_within rfl (by omega) (by decide) ⟨by decide, by decide⟩ (Nat.le_of_ble_eq_true rfl) ?_
      rintro _ _ ⟨rfl, rfl⟩ -
      refine g_ifB_ne (tgt := 33) (pc' := 31) dX11_where_28 rfl (by decide) (fun c28 => ?_) (fun c28 => ?_)
      ·
        refine g_aload_n (pc' := 34) dX11_where_33 rfl rfl ?_
        refine g_getS (pc' := 37) (k := 15) (b := (8, 0)) dX11_where_34 rfl rfl ck_12 (by decide) fl_X11_63 rfl hs rfl ?_
        refine g_iload_n (pc' := 38) dX11_where_37 rfl rfl ?_
        refine g_iload_n (pc' := 39) dX11_where_38 rfl rfl ?_
        refine g_iload_n (pc' := 40) dX11_where_39 rfl rfl ?_
        refine g_invV (pc' := 43) (cx_placeOf hok hc hw t x y) dX11_where_40 rfl rfl ck_1 rfl ml_X11_313 im_X0_placeOf sl_X0_placeOf in_X0 co_X0_placeOf pd_X0_placeOf rfl (by omega) (by decide) ⟨by decide, by decide⟩ (Nat.le_of_ble_eq_true rfl) ?_
        rintro _ _ ⟨rfl, rfl⟩ -
        refine g_iret dX11_where_43 rfl (by decide) (by decide) ?_
        have e : sWhere m (nI t) x y = (whr m t x y (nA m), m) := by unfold sWhere; simp only [nI_clamp (show t < 2 ^ 31 by omega)]; exact cif_t ⟨w2, c17, c28⟩
        rw [e]
        exact ⟨rfl, hc, rfl⟩
      ·
        refine g_iconst (v := -1) (pc' := 32) dX11_where_31 rfl (by decide) ?_
        refine g_iret dX11_where_32 rfl (by decide) (by decide) ?_
        have e : sWhere m (nI t) x y = (-1, m) := cif_f (fun z => c28 z.2.2)
        rw [e]
        exact ⟨rfl, hc, rfl⟩
  ·
    refine g_invV (pc' := 5) (cx_toyAtN hok hc hw w2) dX11_where_2 rfl rfl ck_12 rfl ml_X11_151 im_X11_toyAt sl_X11_toyAt in_X11 co_X11_toyAt pd_X11_toyAt rfl (by omega) (by decide) ⟨by decide, by decide⟩ (Nat.le_of_ble_eq_true rfl) ?_
    rintro _ _ ⟨rfl, rfl⟩ -
    refine g_ifnullN (tgt := 31) dX11_where_5 (by decide) ?_
    refine g_iconst (v := -1) (pc' := 32) dX11_where_31 rfl (by decide) ?_
    refine g_iret dX11_where_32 rfl (by decide) (by decide) ?_
    have e : sWhere m t0 x y = (-1, m) := cif_f (fun z => w2 z.1)
    rw [e]
    exact ⟨rfl, hc, rfl⟩
theorem cnt_out {m : St} (hw : Wf m) {x : Int32} (h : ∀ i : Nat, i ≤ 8 → x ≠ nI i) : cntS m x = -1 :=
  (cif_f (h 0 (by decide))).trans ((cif_f (h 1 (by decide))).trans ((cif_f (h 2 (by decide))).trans ((cif_f (h 3 (by decide))).trans ((cif_f (h 4 (by decide))).trans ((cif_f (h 5 (by decide))).trans ((cif_f (h 6 (by decide))).trans ((cif_f (h 7 (by decide))).trans (cif_f (h 8 (by decide))))))))))
theorem nI_ltL {n c : Nat} (hn : n < 2 ^ 31) (hc : c < 2 ^ 31) (h : nI n < nI c) : n < c := (nI_ltI hn hc).mp h
theorem cnt_low {m : St} (hw : Wf m) {x : Int32} (hx : x < nI 10) : cntF m x = cntS m x := by
  have hK := hw.k.2
  have hF := hw.f.2
  refine (cif_f (fun z => ?_)).trans (cif_f (fun z => ?_))
  · obtain ⟨j, hj, rfl⟩ := (sub_iff (by omega) (by decide)).mp z
    have := nI_ltL (by omega) (by decide) hx
    omega
  · obtain ⟨j, hj, rfl⟩ := (sub_iff (by omega) (by decide)).mp z
    have := nI_ltL (by omega) (by decide) hx
    omega
set_option maxRecDepth 4000 in
theorem cx_countOfOne {E : En} (hok : EOK E) {h : Hp} {m : St} (hc : Cp m h) (hw : Wf m) (hx : Wx m) {x : Int32} (hx8 : ∀ i : Nat, i ≤ 8 → x ≠ nI i) : Call E m_X11_countOfOne 4 0 0 [vR TH, vI x] h (fun r0 h' => r0 = some (vI (cntF m x)) ∧ h = h') := by
  have hs := hc.s
  have hKb := hw.k.2
  have hTb := hw.t.2
  have hFb := hw.f.2
  have hRb := hw.r.2
  have hGb := hw.g.2
  have hAb := hw.a.2
  have hTlb := hw.tl.2
  have hNwb := hw.w.2
  refine Call.enter hok (by decide) (Nat.le_of_ble_eq_true rfl) ?_
  show G E m_X11_countOfOne 4 0 0 _ h 0 [some (vR TH), some (vI x), none] [] h 0 0
  refine g_iload_n (pc' := 1) dX11_countOfOne_0 rfl rfl ?_
  refine g_bipushN (n := 10) (pc' := 3) dX11_countOfOne_1 rfl (by decide) ?_
  refine g_icmp_ge (tgt := 8) (pc' := 6) dX11_countOfOne_3 rfl (by decide) (fun c3 => ?_) (fun c3 => ?_)
  ·
    refine g_iload_n (pc' := 9) dX11_countOfOne_8 rfl rfl ?_
    refine g_bipushN (n := 20) (pc' := 11) dX11_countOfOne_9 rfl (by decide) ?_
    refine g_icmp_ge (tgt := 37) (pc' := 14) dX11_countOfOne_11 rfl (by decide) (fun c11 => ?_) (fun c11 => ?_)
    ·
      refine g_aload_n (pc' := 38) dX11_countOfOne_37 rfl rfl ?_
      refine g_iload_n (pc' := 39) dX11_countOfOne_38 rfl rfl ?_
      refine g_bipushN (n := 20) (pc' := 41) dX11_countOfOne_39 rfl (by decide) ?_
      refine g_isub (pc' := 42) dX11_countOfOne_41 rfl ?_
      generalize hz : x - nI 20 = z
      rcases Classical.em (∃ j : Nat, j < nF m ∧ z = nI j) with w42 | w42
      ·
        have k42 := w42
        obtain ⟨f, hf, rfl⟩ := k42
        refine g_invV (pc' := 45) (cx_familyAt hok hc hw hf) dX11_countOfOne_42 rfl rfl ck_12 rfl ml_X11_192 im_X11_familyAt sl_X11_familyAt in_X11 co_X11_familyAt pd_X11_familyAt rfl (by omega) (by decide) ⟨by decide, by decide⟩ (Nat.le_of_ble_eq_true rfl) ?_
        rintro _ _ ⟨rfl, rfl⟩ -
        refine g_astore_n (pc' := 46) dX11_countOfOne_45 rfl (by decide) rfl ?_
        try simp only [List.set]
        refine g_aload_n (pc' := 47) dX11_countOfOne_46 rfl rfl ?_
        refine g_ifnonnull (tgt := 54) dX11_countOfOne_47 (by decide) ?_
        refine g_aload_n (pc' := 55) dX11_countOfOne_54 rfl rfl ?_
        refine g_aload_n (pc' := 56) dX11_countOfOne_55 rfl rfl ?_
        refine g_invV (pc' := 59) (cx_toysHeldBy hok hc hw hx (f := f) (by omega)) dX11_countOfOne_56 rfl rfl ck_12 rfl ml_X11_451 im_X11_toysHeldBy sl_X11_toysHeldBy in_X11 co_X11_toysHeldBy pd_X11_toysHeldBy rfl (by omega) (by decide) ⟨by decide, by decide⟩ (Nat.le_of_ble_eq_true rfl) ?_
        rintro _ _ ⟨rfl, rfl⟩ -
        refine g_iret dX11_countOfOne_59 rfl (by decide) (by decide) ?_
        have nk : ¬ ∃ j : Nat, j < nK m ∧ x - nI 10 = nI j := fun z => by
          obtain ⟨j, hj, e⟩ := (sub_iff (by omega) (by decide)).mp z
          rw [e] at c11
          exact absurd c11 (nI_ge (show 10 + j < 20 by omega) (by decide))
        have ek : cntF m x = nI (hsT m (nI f)) := (cif_f nk).trans ((cif_t ⟨f, hf, hz⟩).trans (by rw [hz]))
        exact ⟨congrArg (fun z : Int32 => some (vI z)) (ek).symm, rfl⟩
      ·
        refine g_invV (pc' := 45) (cx_familyAtN hok hc hw w42) dX11_countOfOne_42 rfl rfl ck_12 rfl ml_X11_192 im_X11_familyAt sl_X11_familyAt in_X11 co_X11_familyAt pd_X11_familyAt rfl (by omega) (by decide) ⟨by decide, by decide⟩ (Nat.le_of_ble_eq_true rfl) ?_
        rintro _ _ ⟨rfl, rfl⟩ -
        refine g_astore_n (pc' := 46) dX11_countOfOne_45 rfl (by decide) rfl ?_
        try simp only [List.set]
        refine g_aload_n (pc' := 47) dX11_countOfOne_46 rfl rfl ?_
        refine g_ifnonnullN (pc' := 50) dX11_countOfOne_47 rfl ?_
        refine g_iconst (v := -1) (pc' := 51) dX11_countOfOne_50 rfl (by decide) ?_
        refine g_goto (tgt := 59) dX11_countOfOne_51 (by decide) ?_
        refine g_iret dX11_countOfOne_59 rfl (by decide) (by decide) ?_
        have h10 : ∀ i : Nat, i < 10 → x ≠ nI i := fun i hi z => absurd (z ▸ c3) (nI_ge hi (by decide))
        have nk : ¬ ∃ j : Nat, j < nK m ∧ x - nI 10 = nI j := fun z => by
          obtain ⟨j, hj, e⟩ := (sub_iff (by omega) (by decide)).mp z
          rw [e] at c11
          exact absurd c11 (nI_ge (show 10 + j < 20 by omega) (by decide))
        rw [← hz] at w42
        exact ⟨congrArg (fun z : Int32 => some (vI z)) ((cif_f nk).trans ((cif_f w42).trans (cnt_out hw (fun i hi => h10 i (by omega))))).symm, rfl⟩
    ·
      refine g_aload_n (pc' := 15) dX11_countOfOne_14 rfl rfl ?_
      refine g_iload_n (pc' := 16) dX11_countOfOne_15 rfl rfl ?_
      refine g_bipushN (n := 10) (pc' := 18) dX11_countOfOne_16 rfl (by decide) ?_
      refine g_isub (pc' := 19) dX11_countOfOne_18 rfl ?_
      generalize hz : x - nI 10 = z
      rcases Classical.em (∃ j : Nat, j < nK m ∧ z = nI j) with w19 | w19
      ·
        have k19 := w19
        obtain ⟨k, hk, rfl⟩ := k19
        refine g_invV (pc' := 22) (cx_kindAt hok hc hw hk) dX11_countOfOne_19 rfl rfl ck_12 rfl ml_X11_119 im_X11_kindAt sl_X11_kindAt in_X11 co_X11_kindAt pd_X11_kindAt rfl (by omega) (by decide) ⟨by decide, by decide⟩ (Nat.le_of_ble_eq_true rfl) ?_
        rintro _ _ ⟨rfl, rfl⟩ -
        refine g_astore_n (pc' := 23) dX11_countOfOne_22 rfl (by decide) rfl ?_
        try simp only [List.set]
        refine g_aload_n (pc' := 24) dX11_countOfOne_23 rfl rfl ?_
        refine g_ifnonnull (tgt := 31) dX11_countOfOne_24 (by decide) ?_
        refine g_aload_n (pc' := 32) dX11_countOfOne_31 rfl rfl ?_
        refine g_aload_n (pc' := 33) dX11_countOfOne_32 rfl rfl ?_
        refine g_invV (pc' := 36) (cx_waitingFor hok hc hw (k := k) (by omega)) dX11_countOfOne_33 rfl rfl ck_12 rfl ml_X11_347 im_X11_waitingFor sl_X11_waitingFor in_X11 co_X11_waitingFor pd_X11_waitingFor rfl (by omega) (by decide) ⟨by decide, by decide⟩ (Nat.le_of_ble_eq_true rfl) ?_
        rintro _ _ ⟨rfl, rfl⟩ -
        refine g_iret dX11_countOfOne_36 rfl (by decide) (by decide) ?_
        have ek : cntF m x = nI (wfr m k) := (cif_t ⟨k, hk, hz⟩).trans (by rw [hz, nI_clamp (by omega)])
        exact ⟨congrArg (fun z : Int32 => some (vI z)) (ek).symm, rfl⟩
      ·
        refine g_invV (pc' := 22) (cx_kindAtN hok hc hw w19) dX11_countOfOne_19 rfl rfl ck_12 rfl ml_X11_119 im_X11_kindAt sl_X11_kindAt in_X11 co_X11_kindAt pd_X11_kindAt rfl (by omega) (by decide) ⟨by decide, by decide⟩ (Nat.le_of_ble_eq_true rfl) ?_
        rintro _ _ ⟨rfl, rfl⟩ -
        refine g_astore_n (pc' := 23) dX11_countOfOne_22 rfl (by decide) rfl ?_
        try simp only [List.set]
        refine g_aload_n (pc' := 24) dX11_countOfOne_23 rfl rfl ?_
        refine g_ifnonnullN (pc' := 27) dX11_countOfOne_24 rfl ?_
        refine g_iconst (v := -1) (pc' := 28) dX11_countOfOne_27 rfl (by decide) ?_
        refine g_goto (tgt := 36) dX11_countOfOne_28 (by decide) ?_
        refine g_iret dX11_countOfOne_36 rfl (by decide) (by decide) ?_
        have h10 : ∀ i : Nat, i < 10 → x ≠ nI i := fun i hi z => absurd (z ▸ c3) (nI_ge hi (by decide))
        have nf : ¬ ∃ j : Nat, j < nF m ∧ x - nI 20 = nI j := fun z => by
          obtain ⟨j, hj, e⟩ := (sub_iff (by omega) (by decide)).mp z
          rw [e] at c11
          exact absurd (nI_le (show 20 ≤ 20 + j by omega) (by omega)) c11
        rw [← hz] at w19
        exact ⟨congrArg (fun z : Int32 => some (vI z)) ((cif_f w19).trans ((cif_f nf).trans (cnt_out hw (fun i hi => h10 i (by omega))))).symm, rfl⟩
  ·
    refine g_iconst (v := -1) (pc' := 7) dX11_countOfOne_6 rfl (by decide) ?_
    refine g_iret dX11_countOfOne_7 rfl (by decide) (by decide) ?_
    exact ⟨congrArg (fun z : Int32 => some (vI z)) ((cnt_low hw (Int32.not_le.mp c3)).trans (cnt_out hw hx8)).symm, rfl⟩
set_option maxRecDepth 4000 in
theorem cx_count {E : En} (hok : EOK E) {h : Hp} {m : St} (hc : Cp m h) (hw : Wf m) (hx : Wx m) (x : Int32) : Call E m_X11_count 5 0 0 [vR TH, vI x] h (fun r0 h' => r0 = some (vI (cntF m x)) ∧ h = h') := by
  have hs := hc.s
  have hKb := hw.k.2
  have hTb := hw.t.2
  have hFb := hw.f.2
  have hRb := hw.r.2
  have hGb := hw.g.2
  have hAb := hw.a.2
  have hTlb := hw.tl.2
  have hNwb := hw.w.2
  obtain ⟨R0, -, i0, hi0, hTX, -, hCT⟩ := hc.c12
  refine Call.enter hok (by decide) (Nat.le_of_ble_eq_true rfl) ?_
  show G E m_X11_count 5 0 0 _ h 0 [some (vR TH), some (vI x)] [] h 0 0
  refine g_iload_n (pc' := 1) dX11_count_0 rfl rfl ?_
  rcases Classical.em (x = nI 0) with rfl | w0
  ·
    refine g_tabIn (off := 51) (tgt := 52) dX11_count_1 (by decide) (by decide) rfl (by decide) ?_
    refine g_aload_n (pc' := 53) dX11_count_52 rfl rfl ?_
    refine g_getIv (v := m 1 2) (pc' := 56) (k := 0) dX11_count_53 rfl rfl ck_12 (by decide) fl_X11_95 rfl (hc.c1.1) ?_
    refine g_iret dX11_count_56 rfl (by decide) (by decide) ?_
    have e2 : cntF m (nI 0) = _ := (cnt_low hw (by decide)).trans (cif_t rfl)
    rw [e2]
    exact ⟨congrArg (fun z : Int32 => some (vI z)) (rfl), rfl⟩
  rcases Classical.em (x = nI 1) with rfl | w1
  ·
    refine g_tabIn (off := 56) (tgt := 57) dX11_count_1 (by decide) (by decide) rfl (by decide) ?_
    refine g_aload_n (pc' := 58) dX11_count_57 rfl rfl ?_
    refine g_getS (pc' := 61) (k := 10) (b := (13, 0)) dX11_count_58 rfl rfl ck_12 (by decide) fl_X11_31 rfl hs rfl ?_
    refine g_invV (pc' := 64) (ls_size hok hc.c5.1) dX11_count_61 rfl rfl ck_0 rfl ml_X11_103 im_Jx4a65c_size_8abf5 sl_Jx4a65c_size_8abf5 in_Jx4a65c co_Jx4a65c_size_8abf5 pd_Jx4a65c_size_8abf5 rfl (by omega) (by decide) ⟨by decide, by decide⟩ (Nat.le_of_ble_eq_true rfl) ?_
    rintro _ _ ⟨rfl, rfl⟩ -
    refine g_iret dX11_count_64 rfl (by decide) (by decide) ?_
    have e2 : cntF m (nI 1) = _ := (cnt_low hw (by decide)).trans ((cif_f w0).trans (cif_t rfl))
    rw [e2]
    exact ⟨congrArg (fun z : Int32 => some (vI z)) (hw.k.1.symm), rfl⟩
  rcases Classical.em (x = nI 2) with rfl | w2
  ·
    refine g_tabIn (off := 64) (tgt := 65) dX11_count_1 (by decide) (by decide) rfl (by decide) ?_
    refine g_aload_n (pc' := 66) dX11_count_65 rfl rfl ?_
    refine g_getS (pc' := 69) (k := 11) (b := (13, 1)) dX11_count_66 rfl rfl ck_12 (by decide) fl_X11_35 rfl hs rfl ?_
    refine g_invV (pc' := 72) (ls_size hok hc.c6.1) dX11_count_69 rfl rfl ck_0 rfl ml_X11_103 im_Jx4a65c_size_8abf5 sl_Jx4a65c_size_8abf5 in_Jx4a65c co_Jx4a65c_size_8abf5 pd_Jx4a65c_size_8abf5 rfl (by omega) (by decide) ⟨by decide, by decide⟩ (Nat.le_of_ble_eq_true rfl) ?_
    rintro _ _ ⟨rfl, rfl⟩ -
    refine g_iret dX11_count_72 rfl (by decide) (by decide) ?_
    have e2 : cntF m (nI 2) = _ := (cnt_low hw (by decide)).trans ((cif_f w0).trans ((cif_f w1).trans (cif_t rfl)))
    rw [e2]
    exact ⟨congrArg (fun z : Int32 => some (vI z)) (hw.t.1.symm), rfl⟩
  rcases Classical.em (x = nI 3) with rfl | w3
  ·
    refine g_tabIn (off := 72) (tgt := 73) dX11_count_1 (by decide) (by decide) rfl (by decide) ?_
    refine g_aload_n (pc' := 74) dX11_count_73 rfl rfl ?_
    refine g_getS (pc' := 77) (k := 12) (b := (13, 2)) dX11_count_74 rfl rfl ck_12 (by decide) fl_X11_38 rfl hs rfl ?_
    refine g_invV (pc' := 80) (ls_size hok hc.c8.1) dX11_count_77 rfl rfl ck_0 rfl ml_X11_103 im_Jx4a65c_size_8abf5 sl_Jx4a65c_size_8abf5 in_Jx4a65c co_Jx4a65c_size_8abf5 pd_Jx4a65c_size_8abf5 rfl (by omega) (by decide) ⟨by decide, by decide⟩ (Nat.le_of_ble_eq_true rfl) ?_
    rintro _ _ ⟨rfl, rfl⟩ -
    refine g_iret dX11_count_80 rfl (by decide) (by decide) ?_
    have e2 : cntF m (nI 3) = _ := (cnt_low hw (by decide)).trans ((cif_f w0).trans ((cif_f w1).trans ((cif_f w2).trans (cif_t rfl))))
    rw [e2]
    exact ⟨congrArg (fun z : Int32 => some (vI z)) (hw.f.1.symm), rfl⟩
  rcases Classical.em (x = nI 4) with rfl | w4
  ·
    refine g_tabIn (off := 80) (tgt := 81) dX11_count_1 (by decide) (by decide) rfl (by decide) ?_
    refine g_aload_n (pc' := 82) dX11_count_81 rfl rfl ?_
    refine g_getS (pc' := 85) (k := 14) (b := (7, 0)) dX11_count_82 rfl rfl ck_12 (by decide) fl_X11_56 rfl hs rfl ?_
    refine g_getR (pc' := 88) (k := 2) (r := some (6, i0)) dX11_count_85 rfl rfl ck_6 (by decide) fl_X11_182 rfl (hTX) ?_
    refine g_getIv (v := m 1 30) (pc' := 91) (k := 10) dX11_count_88 rfl rfl ck_7 (by decide) fl_X11_185 rfl (hCT.1) ?_
    refine g_iret dX11_count_91 rfl (by decide) (by decide) ?_
    have e2 : cntF m (nI 4) = _ := (cnt_low hw (by decide)).trans ((cif_f w0).trans ((cif_f w1).trans ((cif_f w2).trans ((cif_f w3).trans (cif_t rfl)))))
    rw [e2]
    exact ⟨congrArg (fun z : Int32 => some (vI z)) (rfl), rfl⟩
  rcases Classical.em (x = nI 5) with rfl | w5
  ·
    refine g_tabIn (off := 91) (tgt := 92) dX11_count_1 (by decide) (by decide) rfl (by decide) ?_
    refine g_aload_n (pc' := 93) dX11_count_92 rfl rfl ?_
    refine g_getIv (v := nI (nTl m)) (pc' := 96) (k := 4) dX11_count_93 rfl rfl ck_12 (by decide) fl_X11_165 rfl (hc.c1.2.2.2.2.trans hw.tl.1) ?_
    refine g_iret dX11_count_96 rfl (by decide) (by decide) ?_
    have e2 : cntF m (nI 5) = _ := (cnt_low hw (by decide)).trans ((cif_f w0).trans ((cif_f w1).trans ((cif_f w2).trans ((cif_f w3).trans ((cif_f w4).trans (cif_t rfl))))))
    rw [e2]
    exact ⟨congrArg (fun z : Int32 => some (vI z)) (hw.tl.1.symm), rfl⟩
  rcases Classical.em (x = nI 6) with rfl | w6
  ·
    refine g_tabIn (off := 96) (tgt := 97) dX11_count_1 (by decide) (by decide) rfl (by decide) ?_
    refine g_aload_n (pc' := 98) dX11_count_97 rfl rfl ?_
    refine g_getS (pc' := 101) (k := 13) (b := (13, 3)) dX11_count_98 rfl rfl ck_12 (by decide) fl_X11_41 rfl hs rfl ?_
    refine g_invV (pc' := 104) (ls_size hok hc.c9.1) dX11_count_101 rfl rfl ck_0 rfl ml_X11_103 im_Jx4a65c_size_8abf5 sl_Jx4a65c_size_8abf5 in_Jx4a65c co_Jx4a65c_size_8abf5 pd_Jx4a65c_size_8abf5 rfl (by omega) (by decide) ⟨by decide, by decide⟩ (Nat.le_of_ble_eq_true rfl) ?_
    rintro _ _ ⟨rfl, rfl⟩ -
    refine g_iret dX11_count_104 rfl (by decide) (by decide) ?_
    have e2 : cntF m (nI 6) = _ := (cnt_low hw (by decide)).trans ((cif_f w0).trans ((cif_f w1).trans ((cif_f w2).trans ((cif_f w3).trans ((cif_f w4).trans ((cif_f w5).trans (cif_t rfl)))))))
    rw [e2]
    exact ⟨congrArg (fun z : Int32 => some (vI z)) (hw.r.1.symm), rfl⟩
  rcases Classical.em (x = nI 7) with rfl | w7
  ·
    refine g_tabIn (off := 104) (tgt := 105) dX11_count_1 (by decide) (by decide) rfl (by decide) ?_
    refine g_aload_n (pc' := 106) dX11_count_105 rfl rfl ?_
    refine g_getIv (v := nI (nGf m)) (pc' := 109) (k := 3) dX11_count_106 rfl rfl ck_12 (by decide) fl_X11_155 rfl (hc.c1.2.2.2.1.trans hw.g.1) ?_
    refine g_iret dX11_count_109 rfl (by decide) (by decide) ?_
    have e2 : cntF m (nI 7) = _ := (cnt_low hw (by decide)).trans ((cif_f w0).trans ((cif_f w1).trans ((cif_f w2).trans ((cif_f w3).trans ((cif_f w4).trans ((cif_f w5).trans ((cif_f w6).trans (cif_t rfl))))))))
    rw [e2]
    exact ⟨congrArg (fun z : Int32 => some (vI z)) (hw.g.1.symm), rfl⟩
  rcases Classical.em (x = nI 8) with rfl | w8
  ·
    refine g_tabIn (off := 109) (tgt := 110) dX11_count_1 (by decide) (by decide) rfl (by decide) ?_
    refine g_aload_n (pc' := 111) dX11_count_110 rfl rfl ?_
    refine g_getS (pc' := 114) (k := 15) (b := (8, 0)) dX11_count_111 rfl rfl ck_12 (by decide) fl_X11_63 rfl hs rfl ?_
    refine g_getIv (v := nI (nA m)) (pc' := 117) (k := 4) dX11_count_114 rfl rfl ck_1 (by decide) fl_X11_445 rfl (hc.c10.1.trans hw.a.1) ?_
    refine g_iret dX11_count_117 rfl (by decide) (by decide) ?_
    have e2 : cntF m (nI 8) = _ := (cnt_low hw (by decide)).trans ((cif_f w0).trans ((cif_f w1).trans ((cif_f w2).trans ((cif_f w3).trans ((cif_f w4).trans ((cif_f w5).trans ((cif_f w6).trans ((cif_f w7).trans (cif_t rfl)))))))))
    rw [e2]
    exact ⟨congrArg (fun z : Int32 => some (vI z)) (hw.a.1.symm), rfl⟩
  refine g_tabOut (tgt := 118) dX11_count_1 (tab_out 8 (fun i hi => by rcases (show i = 0 ∨ i = 1 ∨ i = 2 ∨ i = 3 ∨ i = 4 ∨ i = 5 ∨ i = 6 ∨ i = 7 ∨ i = 8 by omega) with rfl | rfl | rfl | rfl | rfl | rfl | rfl | rfl | rfl <;> assumption)) (by decide) ?_
  refine g_aload_n (pc' := 119) dX11_count_118 rfl rfl ?_
  refine g_iload_n (pc' := 120) dX11_count_119 rfl rfl ?_
  refine g_invV (pc' := 123) (cx_countOfOne hok hc hw hx (x := x) (fun i hi => by rcases (show i = 0 ∨ i = 1 ∨ i = 2 ∨ i = 3 ∨ i = 4 ∨ i = 5 ∨ i = 6 ∨ i = 7 ∨ i = 8 by omega) with rfl | rfl | rfl | rfl | rfl | rfl | rfl | rfl | rfl <;> assumption)) dX11_count_120 rfl rfl ck_12 rfl ml_X11_448 im_X11_countOfOne sl_X11_countOfOne in_X11 co_X11_countOfOne pd_X11_countOfOne rfl (by omega) (by decide) ⟨by decide, by decide⟩ (Nat.le_of_ble_eq_true rfl) ?_
  rintro _ _ ⟨rfl, rfl⟩ -
  refine g_iret dX11_count_123 rfl (by decide) (by decide) ?_
  exact ⟨rfl, rfl⟩
theorem ten_iff {x : Int32} : (0 ≤ x - nI 10 ∧ x - nI 10 ≤ 5) ↔ (nI 10 ≤ x ∧ x ≤ nI 15) := by
  rw [sort_iff, sub_iff (by decide) (by decide)]
  constructor
  · rintro ⟨j, hj, rfl⟩
    exact ⟨nI_le (by omega) (by omega), nI_le (by omega) (by omega)⟩
  · rintro ⟨a, b⟩
    obtain ⟨j, hj, rfl⟩ := rng (x := x) (n := 15) rfl (by decide) ⟨Int32.le_trans (by decide) a, b⟩
    rw [nI_leI (by decide) (by omega)] at a
    exact ⟨j - 10, by omega, by rw [show 10 + (j - 10) = j by omega]⟩
set_option maxRecDepth 4000 in
theorem cx_toyIs {E : En} (hok : EOK E) {h : Hp} {m : St} (hc : Cp m h) (hw : Wf m) (t0 : Int32) (x : Int32) : Call E m_X11_toyIs 4 0 0 [vR TH, vI t0, vI x] h (fun r h' => r = some (vI (sToyIs m t0 x).1) ∧ Cp (sToyIs m t0 x).2 h' ∧ mo h' = mo h) := by
  have hs := hc.s
  have hKb := hw.k.2
  have hTb := hw.t.2
  have hFb := hw.f.2
  have hRb := hw.r.2
  have hGb := hw.g.2
  have hAb := hw.a.2
  have hTlb := hw.tl.2
  have hNwb := hw.w.2
  refine Call.enter hok (by decide) (Nat.le_of_ble_eq_true rfl) ?_
  show G E m_X11_toyIs 4 0 0 _ h 0 [some (vR TH), some (vI t0), some (vI x), none] [] h 0 0
  refine g_aload_n (pc' := 1) dX11_toyIs_0 rfl rfl ?_
  refine g_iload_n (pc' := 2) dX11_toyIs_1 rfl rfl ?_
  rcases Classical.em (∃ j : Nat, j < nT m ∧ t0 = nI j) with w2 | w2
  ·
    have k2 := w2
    obtain ⟨t, ht, rfl⟩ := k2
    refine g_invV (pc' := 5) (cx_toyAt hok hc hw ht) dX11_toyIs_2 rfl rfl ck_12 rfl ml_X11_151 im_X11_toyAt sl_X11_toyAt in_X11 co_X11_toyAt pd_X11_toyAt rfl (by omega) (by decide) ⟨by decide, by decide⟩ (Nat.le_of_ble_eq_true rfl) ?_
    rintro _ _ ⟨rfl, rfl⟩ -
    refine g_astore_n (pc' := 6) dX11_toyIs_5 rfl (by decide) rfl ?_
    try simp only [List.set]
    refine g_aload_n (pc' := 7) dX11_toyIs_6 rfl rfl ?_
    refine g_ifnonnull (tgt := 12) dX11_toyIs_7 (by decide) ?_
    refine g_iload_n (pc' := 13) dX11_toyIs_12 rfl rfl ?_
    rcases Classical.em (x = nI 0) with rfl | w0
    ·
      refine g_tabIn (off := 51) (tgt := 64) dX11_toyIs_13 (by decide) (by decide) rfl (by decide) ?_
      refine g_aload_n (pc' := 65) dX11_toyIs_64 rfl rfl ?_
      refine g_getIv (v := m 118 (t)) (pc' := 68) (k := 7) dX11_toyIs_65 rfl rfl ck_9 (by decide) fl_X11_264 rfl (hc.t7 (t := t) (by omega)) ?_
      refine g_iret dX11_toyIs_68 rfl (by decide) (by decide) ?_
      have e : sToyIs m (nI t) (nI 0) = (tisF m t (nI 0), m) := by unfold sToyIs; simp only [nI_clamp (show t < 2 ^ 31 by omega)]; exact cif_t ⟨t, ht, rfl⟩
      rw [e]
      exact ⟨congrArg (fun z : Int32 => some (vI z)) (show _ = tisF m t (nI 0) from ((cif_f (fun z => absurd (ten_iff.mp z).1 (by decide))).trans (cif_t rfl)).symm), hc, rfl⟩
    rcases Classical.em (x = nI 1) with rfl | w1
    ·
      refine g_tabIn (off := 56) (tgt := 69) dX11_toyIs_13 (by decide) (by decide) rfl (by decide) ?_
      refine g_aload_n (pc' := 70) dX11_toyIs_69 rfl rfl ?_
      refine g_getIv (v := m 119 (t)) (pc' := 73) (k := 8) dX11_toyIs_70 rfl rfl ck_9 (by decide) fl_X11_271 rfl (hc.t8 (t := t) (by omega)) ?_
      refine g_iret dX11_toyIs_73 rfl (by decide) (by decide) ?_
      have e : sToyIs m (nI t) (nI 1) = (tisF m t (nI 1), m) := by unfold sToyIs; simp only [nI_clamp (show t < 2 ^ 31 by omega)]; exact cif_t ⟨t, ht, rfl⟩
      rw [e]
      exact ⟨congrArg (fun z : Int32 => some (vI z)) (show _ = tisF m t (nI 1) from ((cif_f (fun z => absurd (ten_iff.mp z).1 (by decide))).trans ((cif_f w0).trans (cif_t rfl))).symm), hc, rfl⟩
    rcases Classical.em (x = nI 2) with rfl | w2
    ·
      refine g_tabIn (off := 61) (tgt := 74) dX11_toyIs_13 (by decide) (by decide) rfl (by decide) ?_
      refine g_aload_n (pc' := 75) dX11_toyIs_74 rfl rfl ?_
      refine g_getIv (v := m 120 (t)) (pc' := 78) (k := 9) dX11_toyIs_75 rfl rfl ck_9 (by decide) fl_X11_225 rfl (hc.t9 (t := t) (by omega)) ?_
      refine g_iret dX11_toyIs_78 rfl (by decide) (by decide) ?_
      have e : sToyIs m (nI t) (nI 2) = (tisF m t (nI 2), m) := by unfold sToyIs; simp only [nI_clamp (show t < 2 ^ 31 by omega)]; exact cif_t ⟨t, ht, rfl⟩
      rw [e]
      exact ⟨congrArg (fun z : Int32 => some (vI z)) (show _ = tisF m t (nI 2) from ((cif_f (fun z => absurd (ten_iff.mp z).1 (by decide))).trans ((cif_f w0).trans ((cif_f w1).trans (cif_t rfl)))).symm), hc, rfl⟩
    rcases Classical.em (x = nI 3) with rfl | w3
    ·
      refine g_tabIn (off := 66) (tgt := 79) dX11_toyIs_13 (by decide) (by decide) rfl (by decide) ?_
      refine g_aload_n (pc' := 80) dX11_toyIs_79 rfl rfl ?_
      refine g_getIv (v := m 117 (t)) (pc' := 83) (k := 12) dX11_toyIs_80 rfl rfl ck_9 (by decide) fl_X11_274 rfl (hc.t12 (t := t) (by omega)) ?_
      refine g_iret dX11_toyIs_83 rfl (by decide) (by decide) ?_
      have e : sToyIs m (nI t) (nI 3) = (tisF m t (nI 3), m) := by unfold sToyIs; simp only [nI_clamp (show t < 2 ^ 31 by omega)]; exact cif_t ⟨t, ht, rfl⟩
      rw [e]
      exact ⟨congrArg (fun z : Int32 => some (vI z)) (show _ = tisF m t (nI 3) from ((cif_f (fun z => absurd (ten_iff.mp z).1 (by decide))).trans ((cif_f w0).trans ((cif_f w1).trans ((cif_f w2).trans (cif_t rfl))))).symm), hc, rfl⟩
    rcases Classical.em (x = nI 4) with rfl | w4
    ·
      refine g_tabIn (off := 71) (tgt := 84) dX11_toyIs_13 (by decide) (by decide) rfl (by decide) ?_
      refine g_aload_n (pc' := 85) dX11_toyIs_84 rfl rfl ?_
      refine g_getIv (v := m 122 (t)) (pc' := 88) (k := 13) dX11_toyIs_85 rfl rfl ck_9 (by decide) fl_X11_277 rfl (hc.t13 (t := t) (by omega)) ?_
      refine g_iret dX11_toyIs_88 rfl (by decide) (by decide) ?_
      have e : sToyIs m (nI t) (nI 4) = (tisF m t (nI 4), m) := by unfold sToyIs; simp only [nI_clamp (show t < 2 ^ 31 by omega)]; exact cif_t ⟨t, ht, rfl⟩
      rw [e]
      exact ⟨congrArg (fun z : Int32 => some (vI z)) (show _ = tisF m t (nI 4) from ((cif_f (fun z => absurd (ten_iff.mp z).1 (by decide))).trans ((cif_f w0).trans ((cif_f w1).trans ((cif_f w2).trans ((cif_f w3).trans (cif_t rfl)))))).symm), hc, rfl⟩
    rcases Classical.em (x = nI 5) with rfl | w5
    ·
      refine g_tabIn (off := 76) (tgt := 89) dX11_toyIs_13 (by decide) (by decide) rfl (by decide) ?_
      refine g_aload_n (pc' := 90) dX11_toyIs_89 rfl rfl ?_
      refine g_getIv (v := m 124 (t)) (pc' := 93) (k := 14) dX11_toyIs_90 rfl rfl ck_9 (by decide) fl_X11_260 rfl (hc.t14 (t := t) (by omega)) ?_
      refine g_if_eq (tgt := 100) (pc' := 96) dX11_toyIs_93 rfl (by decide) (fun c93 => ?_) (fun c93 => ?_)
      ·
        refine g_iconstN (n := 0) (pc' := 101) dX11_toyIs_100 rfl ?_
        refine g_iret dX11_toyIs_101 rfl (by decide) (by decide) ?_
        have e : sToyIs m (nI t) (nI 5) = (tisF m t (nI 5), m) := by unfold sToyIs; simp only [nI_clamp (show t < 2 ^ 31 by omega)]; exact cif_t ⟨t, ht, rfl⟩
        rw [e]
        exact ⟨congrArg (fun z : Int32 => some (vI z)) (show _ = tisF m t (nI 5) from ((cif_f (fun z => absurd (ten_iff.mp z).1 (by decide))).trans ((cif_f w0).trans ((cif_f w1).trans ((cif_f w2).trans ((cif_f w3).trans ((cif_f w4).trans ((cif_t rfl).trans (bi_f (fun z => z c93))))))))).symm), hc, rfl⟩
      ·
        refine g_iconstN (n := 1) (pc' := 97) dX11_toyIs_96 rfl ?_
        refine g_goto (tgt := 101) dX11_toyIs_97 (by decide) ?_
        refine g_iret dX11_toyIs_101 rfl (by decide) (by decide) ?_
        have e : sToyIs m (nI t) (nI 5) = (tisF m t (nI 5), m) := by unfold sToyIs; simp only [nI_clamp (show t < 2 ^ 31 by omega)]; exact cif_t ⟨t, ht, rfl⟩
        rw [e]
        exact ⟨congrArg (fun z : Int32 => some (vI z)) (show _ = tisF m t (nI 5) from ((cif_f (fun z => absurd (ten_iff.mp z).1 (by decide))).trans ((cif_f w0).trans ((cif_f w1).trans ((cif_f w2).trans ((cif_f w3).trans ((cif_f w4).trans ((cif_t rfl).trans (bi_t c93)))))))).symm), hc, rfl⟩
    rcases Classical.em (x = nI 6) with rfl | w6
    ·
      refine g_tabIn (off := 89) (tgt := 102) dX11_toyIs_13 (by decide) (by decide) rfl (by decide) ?_
      refine g_aload_n (pc' := 103) dX11_toyIs_102 rfl rfl ?_
      refine g_aload_n (pc' := 104) dX11_toyIs_103 rfl rfl ?_
      refine g_invV (pc' := 107) (cx_isRecalled hok hc hw (t := t) (by omega)) dX11_toyIs_104 rfl rfl ck_12 rfl ml_X11_280 im_X11_isRecalled sl_X11_isRecalled in_X11 co_X11_isRecalled pd_X11_isRecalled rfl (by omega) (by decide) ⟨by decide, by decide⟩ (Nat.le_of_ble_eq_true rfl) ?_
      rintro _ _ ⟨rfl, rfl⟩ -
      refine g_ifB_eq (tgt := 114) (pc' := 110) dX11_toyIs_107 rfl (by decide) (fun c107 => ?_) (fun c107 => ?_)
      ·
        refine g_iconstN (n := 0) (pc' := 115) dX11_toyIs_114 rfl ?_
        refine g_iret dX11_toyIs_115 rfl (by decide) (by decide) ?_
        have e : sToyIs m (nI t) (nI 6) = (tisF m t (nI 6), m) := by unfold sToyIs; simp only [nI_clamp (show t < 2 ^ 31 by omega)]; exact cif_t ⟨t, ht, rfl⟩
        rw [e]
        exact ⟨congrArg (fun z : Int32 => some (vI z)) (show _ = tisF m t (nI 6) from ((cif_f (fun z => absurd (ten_iff.mp z).1 (by decide))).trans ((cif_f w0).trans ((cif_f w1).trans ((cif_f w2).trans ((cif_f w3).trans ((cif_f w4).trans ((cif_f w5).trans ((cif_t rfl).trans (bi_f c107))))))))).symm), hc, rfl⟩
      ·
        refine g_iconstN (n := 1) (pc' := 111) dX11_toyIs_110 rfl ?_
        refine g_goto (tgt := 115) dX11_toyIs_111 (by decide) ?_
        refine g_iret dX11_toyIs_115 rfl (by decide) (by decide) ?_
        have e : sToyIs m (nI t) (nI 6) = (tisF m t (nI 6), m) := by unfold sToyIs; simp only [nI_clamp (show t < 2 ^ 31 by omega)]; exact cif_t ⟨t, ht, rfl⟩
        rw [e]
        exact ⟨congrArg (fun z : Int32 => some (vI z)) (show _ = tisF m t (nI 6) from ((cif_f (fun z => absurd (ten_iff.mp z).1 (by decide))).trans ((cif_f w0).trans ((cif_f w1).trans ((cif_f w2).trans ((cif_f w3).trans ((cif_f w4).trans ((cif_f w5).trans ((cif_t rfl).trans (bi_t c107))))))))).symm), hc, rfl⟩
    rcases Classical.em (x = nI 7) with rfl | w7
    ·
      refine g_tabIn (off := 103) (tgt := 116) dX11_toyIs_13 (by decide) (by decide) rfl (by decide) ?_
      refine g_aload_n (pc' := 117) dX11_toyIs_116 rfl rfl ?_
      refine g_invV (pc' := 120) (cx_lacking hok hc hw (t := t) (by omega)) dX11_toyIs_117 rfl rfl ck_9 rfl ml_X11_265 im_X8_lacking sl_X8_lacking in_X8 co_X8_lacking pd_X8_lacking rfl (by omega) (by decide) ⟨by decide, by decide⟩ (Nat.le_of_ble_eq_true rfl) ?_
      rintro _ _ ⟨rfl, rfl⟩ -
      refine g_iret dX11_toyIs_120 rfl (by decide) (by decide) ?_
      have e : sToyIs m (nI t) (nI 7) = (tisF m t (nI 7), m) := by unfold sToyIs; simp only [nI_clamp (show t < 2 ^ 31 by omega)]; exact cif_t ⟨t, ht, rfl⟩
      rw [e]
      exact ⟨congrArg (fun z : Int32 => some (vI z)) (show _ = tisF m t (nI 7) from ((cif_f (fun z => absurd (ten_iff.mp z).1 (by decide))).trans ((cif_f w0).trans ((cif_f w1).trans ((cif_f w2).trans ((cif_f w3).trans ((cif_f w4).trans ((cif_f w5).trans ((cif_f w6).trans (cif_t rfl))))))))).symm), hc, rfl⟩
    rcases Classical.em (x = nI 8) with rfl | w8
    ·
      refine g_tabIn (off := 108) (tgt := 121) dX11_toyIs_13 (by decide) (by decide) rfl (by decide) ?_
      refine g_aload_n (pc' := 122) dX11_toyIs_121 rfl rfl ?_
      refine g_getIv (v := m 1 6) (pc' := 125) (k := 1) dX11_toyIs_122 rfl rfl ck_12 (by decide) fl_X11_145 rfl (hc.c1.2.1) ?_
      refine g_aload_n (pc' := 126) dX11_toyIs_125 rfl rfl ?_
      refine g_invV (pc' := 129) (cx_weightOfPieces hok hc hw (t := t) (by omega)) dX11_toyIs_126 rfl rfl ck_9 rfl ml_X11_284 im_X8_weightOfPieces sl_X8_weightOfPieces in_X8 co_X8_weightOfPieces pd_X8_weightOfPieces rfl (by omega) (by decide) ⟨by decide, by decide⟩ (Nat.le_of_ble_eq_true rfl) ?_
      rintro _ _ ⟨rfl, rfl⟩ -
      refine g_iadd (pc' := 130) dX11_toyIs_129 rfl ?_
      refine g_iret dX11_toyIs_130 rfl (by decide) (by decide) ?_
      have e : sToyIs m (nI t) (nI 8) = (tisF m t (nI 8), m) := by unfold sToyIs; simp only [nI_clamp (show t < 2 ^ 31 by omega)]; exact cif_t ⟨t, ht, rfl⟩
      rw [e]
      exact ⟨congrArg (fun z : Int32 => some (vI z)) (show _ = tisF m t (nI 8) from ((cif_f (fun z => absurd (ten_iff.mp z).1 (by decide))).trans ((cif_f w0).trans ((cif_f w1).trans ((cif_f w2).trans ((cif_f w3).trans ((cif_f w4).trans ((cif_f w5).trans ((cif_f w6).trans ((cif_f w7).trans (cif_t rfl)))))))))).symm), hc, rfl⟩
    refine g_tabOut (tgt := 131) dX11_toyIs_13 (tab_out 8 (fun i hi => by rcases (show i = 0 ∨ i = 1 ∨ i = 2 ∨ i = 3 ∨ i = 4 ∨ i = 5 ∨ i = 6 ∨ i = 7 ∨ i = 8 by omega) with rfl | rfl | rfl | rfl | rfl | rfl | rfl | rfl | rfl <;> assumption)) (by decide) ?_
    refine g_iload_n (pc' := 132) dX11_toyIs_131 rfl rfl ?_
    refine g_bipushN (n := 10) (pc' := 134) dX11_toyIs_132 rfl (by decide) ?_
    refine g_bipushN (n := 15) (pc' := 136) dX11_toyIs_134 rfl (by decide) ?_
    refine g_invS (pc' := 139) (cx_within hok _ _ _) dX11_toyIs_136 rfl ml_X11_99 st_X11_within in_X11 co_X11_within pd_X11_within rfl (by omega) (by decide) ⟨by decide, by decide⟩ (Nat.le_of_ble_eq_true rfl) ?_
    rintro _ _ ⟨rfl, rfl⟩ -
    refine g_ifB_eq (tgt := 154) (pc' := 142) dX11_toyIs_139 rfl (by decide) (fun c139 => ?_) (fun c139 => ?_)
    ·
      refine g_iconst (v := -1) (pc' := 155) dX11_toyIs_154 rfl (by decide) ?_
      refine g_iret dX11_toyIs_155 rfl (by decide) (by decide) ?_
      have e : sToyIs m (nI t) x = (tisF m t x, m) := by unfold sToyIs; simp only [nI_clamp (show t < 2 ^ 31 by omega)]; exact cif_t ⟨t, ht, rfl⟩
      rw [e]
      exact ⟨congrArg (fun z : Int32 => some (vI z)) (show _ = tisF m t x from ((cif_f (fun z => c139 (ten_iff.mp z))).trans ((cif_f w0).trans ((cif_f w1).trans ((cif_f w2).trans ((cif_f w3).trans ((cif_f w4).trans ((cif_f w5).trans ((cif_f w6).trans ((cif_f w7).trans (cif_f w8)))))))))).symm), hc, rfl⟩
    ·
      obtain ⟨i, hi, ex⟩ := sort_iff.mp (ten_iff.mpr c139)
      refine g_aload_n (pc' := 143) dX11_toyIs_142 rfl rfl ?_
      refine g_getS (pc' := 146) (k := 3) (b := (26, t)) dX11_toyIs_143 rfl rfl ck_9 (by decide) fl_X11_287 rfl hs rfl ?_
      refine g_iload_n (pc' := 147) dX11_toyIs_146 rfl rfl ?_
      refine g_bipushN (n := 10) (pc' := 149) dX11_toyIs_147 rfl (by decide) ?_
      refine g_isub (pc' := 150) dX11_toyIs_149 rfl ?_
      rw [ex]
      refine g_ialdN (pc' := 151) (v := m 125 (6 * t + i)) dX11_toyIs_150 rfl rfl (by decide) (by omega) ((hc.c6.2.1 t ht).2.2 i (by omega)) ?_
      refine g_goto (tgt := 155) dX11_toyIs_151 (by decide) ?_
      refine g_iret dX11_toyIs_155 rfl (by decide) (by decide) ?_
      have e : sToyIs m (nI t) x = (tisF m t x, m) := by unfold sToyIs; simp only [nI_clamp (show t < 2 ^ 31 by omega)]; exact cif_t ⟨t, ht, rfl⟩
      rw [e]
      exact ⟨congrArg (fun z : Int32 => some (vI z)) (show _ = tisF m t x from ((cif_t ((ten_iff).mpr c139)).trans (by rw [ex, nI_clamp (by omega)])).symm), hc, rfl⟩
  ·
    refine g_invV (pc' := 5) (cx_toyAtN hok hc hw w2) dX11_toyIs_2 rfl rfl ck_12 rfl ml_X11_151 im_X11_toyAt sl_X11_toyAt in_X11 co_X11_toyAt pd_X11_toyAt rfl (by omega) (by decide) ⟨by decide, by decide⟩ (Nat.le_of_ble_eq_true rfl) ?_
    rintro _ _ ⟨rfl, rfl⟩ -
    refine g_astore_n (pc' := 6) dX11_toyIs_5 rfl (by decide) rfl ?_
    try simp only [List.set]
    refine g_aload_n (pc' := 7) dX11_toyIs_6 rfl rfl ?_
    refine g_ifnonnullN (pc' := 10) dX11_toyIs_7 rfl ?_
    refine g_iconst (v := -1) (pc' := 11) dX11_toyIs_10 rfl (by decide) ?_
    refine g_iret dX11_toyIs_11 rfl (by decide) (by decide) ?_
    have e : sToyIs m t0 x = (-1, m) := cif_f (fun z => w2 z)
    rw [e]
    exact ⟨rfl, hc, rfl⟩
set_option maxRecDepth 4000 in
theorem lx_toysOfRecall {E : En} (hok : EOK E) {h h0 : Hp} {m : St} (hc : Cp m h) (hw : Wf m) {r : Nat} (hr : r < nR m) {d : Nat} (hd : 3 ≤ d) {Q : Option V → Hp → Prop} (hQ : Q (some (vI (rcT m r))) h) : ∀ n t : Nat, t ≤ nT m → nT m - t = n → G E m_X11_toysOfRecall d 0 0 Q h0 4 [some (vR TH), some (vR (5, r)), some (vI (orr (fun t => cif (isOfm m r t) ((1 : Int32) <<< (nI t &&& 31)) 0) t)), some (vI (nI t))] [] (h) 0 0 := by
  have hs := hc.s
  have hKb := hw.k.2
  have hTb := hw.t.2
  have hFb := hw.f.2
  have hRb := hw.r.2
  have hGb := hw.g.2
  have hAb := hw.a.2
  have hTlb := hw.tl.2
  have hNwb := hw.w.2
  intro n
  induction n with
  | zero =>
    intro t h1 h2
    refine g_iload_n (pc' := 5) dX11_toysOfRecall_4 rfl rfl ?_
    refine g_aload_n (pc' := 6) dX11_toysOfRecall_5 rfl rfl ?_
    refine g_getS (pc' := 9) (k := 11) (b := (13, 1)) dX11_toysOfRecall_6 rfl rfl ck_12 (by decide) fl_X11_35 rfl hs rfl ?_
    refine g_invV (pc' := 12) (ls_size hok hc.c6.1) dX11_toysOfRecall_9 rfl rfl ck_0 rfl ml_X11_103 im_Jx4a65c_size_8abf5 sl_Jx4a65c_size_8abf5 in_Jx4a65c co_Jx4a65c_size_8abf5 pd_Jx4a65c_size_8abf5 rfl (by omega) (by decide) ⟨by decide, by decide⟩ (Nat.le_of_ble_eq_true rfl) ?_
    rintro _ _ ⟨rfl, rfl⟩ -
    refine g_icmp_geN (tgt := 45) (pc' := 15) dX11_toysOfRecall_12 rfl (by decide) (by omega) (by omega) (fun c12 => ?_) (fun c12 => ?_)
    ·
      refine g_iload_n (pc' := 46) dX11_toysOfRecall_45 rfl rfl ?_
      refine g_iret dX11_toysOfRecall_46 rfl (by decide) (by decide) ?_
      have e : t = nT m := by omega
      subst e
      exact hQ
    · exact absurd c12 (by omega)
  | succ n ih =>
    intro t h1 h2
    refine g_iload_n (pc' := 5) dX11_toysOfRecall_4 rfl rfl ?_
    refine g_aload_n (pc' := 6) dX11_toysOfRecall_5 rfl rfl ?_
    refine g_getS (pc' := 9) (k := 11) (b := (13, 1)) dX11_toysOfRecall_6 rfl rfl ck_12 (by decide) fl_X11_35 rfl hs rfl ?_
    refine g_invV (pc' := 12) (ls_size hok hc.c6.1) dX11_toysOfRecall_9 rfl rfl ck_0 rfl ml_X11_103 im_Jx4a65c_size_8abf5 sl_Jx4a65c_size_8abf5 in_Jx4a65c co_Jx4a65c_size_8abf5 pd_Jx4a65c_size_8abf5 rfl (by omega) (by decide) ⟨by decide, by decide⟩ (Nat.le_of_ble_eq_true rfl) ?_
    rintro _ _ ⟨rfl, rfl⟩ -
    refine g_icmp_geN (tgt := 45) (pc' := 15) dX11_toysOfRecall_12 rfl (by decide) (by omega) (by omega) (fun c12 => ?_) (fun c12 => ?_)
    · exact absurd c12 (by omega)
    ·
      refine g_aload_n (pc' := 16) dX11_toysOfRecall_15 rfl rfl ?_
      refine g_aload_n (pc' := 17) dX11_toysOfRecall_16 rfl rfl ?_
      refine g_getS (pc' := 20) (k := 11) (b := (13, 1)) dX11_toysOfRecall_17 rfl rfl ck_12 (by decide) fl_X11_35 rfl hs rfl ?_
      refine g_iload_n (pc' := 21) dX11_toysOfRecall_20 rfl rfl ?_
      refine g_invV (pc' := 24) (ls_get hok hc.c6.1 (j := t) (by omega) (by omega)) dX11_toysOfRecall_21 rfl rfl ck_0 rfl ml_X11_324 im_Jx4a65c_get_915e3 sl_Jx4a65c_get_915e3 in_Jx4a65c co_Jx4a65c_get_915e3 pd_Jx4a65c_get_915e3 rfl (by omega) (by decide) ⟨by decide, by decide⟩ (Nat.le_of_ble_eq_true rfl) ?_
      rintro _ _ ⟨rfl, rfl⟩ -
      refine g_cast (pc' := 27) dX11_toysOfRecall_24 rfl rfl ck_9 cl_X11_133 ?_
      refine g_invV (pc' := 30) (cx_covers hok hc hw (r := r) (t := t) (by omega) (by omega)) dX11_toysOfRecall_27 rfl rfl ck_5 rfl ml_X11_455 im_X4_covers sl_X4_covers in_X4 co_X4_covers pd_X4_covers rfl (by omega) (by decide) ⟨by decide, by decide⟩ (Nat.le_of_ble_eq_true rfl) ?_
      rintro _ _ ⟨rfl, rfl⟩ -
      refine g_ifB_eq (tgt := 39) (pc' := 33) dX11_toysOfRecall_30 rfl (by decide) (fun c30 => ?_) (fun c30 => ?_)
      ·
        refine g_iincN (k := 1) (pc' := 42) dX11_toysOfRecall_39 rfl rfl (by decide) rfl ?_
        try simp only [List.set]
        refine g_goto (tgt := 4) dX11_toysOfRecall_42 (by decide) ?_
        have q := ih (t + 1) (by omega) (by omega)
        have eo : orr (fun t => cif (isOfm m r t) ((1 : Int32) <<< (nI t &&& 31)) 0) (t + 1) = orr (fun t => cif (isOfm m r t) ((1 : Int32) <<< (nI t &&& 31)) 0) t ||| 0 := congrArg (fun z => orr (fun t => cif (isOfm m r t) ((1 : Int32) <<< (nI t &&& 31)) 0) t ||| z) (cif_f c30)
        rw [eo, Int32.or_zero] at q
        exact q
      ·
        refine g_iload_n (pc' := 34) dX11_toysOfRecall_33 rfl rfl ?_
        refine g_iconst (v := 1) (pc' := 35) dX11_toysOfRecall_34 rfl (by decide) ?_
        refine g_iload_n (pc' := 36) dX11_toysOfRecall_35 rfl rfl ?_
        refine g_ishl (pc' := 37) dX11_toysOfRecall_36 rfl ?_
        refine g_ior (pc' := 38) dX11_toysOfRecall_37 rfl ?_
        refine g_istore_n (pc' := 39) dX11_toysOfRecall_38 rfl (by decide) rfl ?_
        try simp only [List.set]
        refine g_iincN (k := 1) (pc' := 42) dX11_toysOfRecall_39 rfl rfl (by decide) rfl ?_
        try simp only [List.set]
        refine g_goto (tgt := 4) dX11_toysOfRecall_42 (by decide) ?_
        have q := ih (t + 1) (by omega) (by omega)
        have eo : orr (fun t => cif (isOfm m r t) ((1 : Int32) <<< (nI t &&& 31)) 0) (t + 1) = orr (fun t => cif (isOfm m r t) ((1 : Int32) <<< (nI t &&& 31)) 0) t ||| ((1 : Int32) <<< (nI t &&& 31)) := congrArg (fun z => orr (fun t => cif (isOfm m r t) ((1 : Int32) <<< (nI t &&& 31)) 0) t ||| z) (cif_t c30)
        rw [eo] at q
        exact q
set_option maxRecDepth 4000 in
theorem cx_toysOfRecall {E : En} (hok : EOK E) {h : Hp} {m : St} (hc : Cp m h) (hw : Wf m) {r : Nat} (hr : r < nR m) : Call E m_X11_toysOfRecall 3 0 0 [vR TH, vR (5, r)] h (fun r0 h' => r0 = some (vI (rcT m r)) ∧ h = h') := by
  have hs := hc.s
  have hKb := hw.k.2
  have hTb := hw.t.2
  have hFb := hw.f.2
  have hRb := hw.r.2
  have hGb := hw.g.2
  have hAb := hw.a.2
  have hTlb := hw.tl.2
  have hNwb := hw.w.2
  refine Call.enter hok (by decide) (Nat.le_of_ble_eq_true rfl) ?_
  show G E m_X11_toysOfRecall 3 0 0 _ h 0 [some (vR TH), some (vR (5, r)), none, none] [] h 0 0
  refine g_iconst (v := 0) (pc' := 1) dX11_toysOfRecall_0 rfl (by decide) ?_
  refine g_istore_n (pc' := 2) dX11_toysOfRecall_1 rfl (by decide) rfl ?_
  try simp only [List.set]
  refine g_iconstN (n := 0) (pc' := 3) dX11_toysOfRecall_2 rfl ?_
  refine g_istore_n (pc' := 4) dX11_toysOfRecall_3 rfl (by decide) rfl ?_
  try simp only [List.set]
  exact lx_toysOfRecall hok hc hw hr (Nat.le_refl _) ⟨rfl, rfl⟩ _ 0 (Nat.zero_le _) rfl
set_option maxRecDepth 4000 in
theorem lx_holdersNow {E : En} (hok : EOK E) {h h0 : Hp} {m : St} (hc : Cp m h) (hw : Wf m) {r : Nat} (hr : r < nR m) {d : Nat} (hd : 3 ≤ d) {Q : Option V → Hp → Prop} (hQ : Q (some (vI (hadN m r))) h) : ∀ n t : Nat, t ≤ nT m → nT m - t = n → G E m_X11_holdersNow d 0 0 Q h0 4 [some (vR TH), some (vR (5, r)), some (vI (orr (fun t => cif (m 118 t = 1 ∧ isOfm m r t) ((1 : Int32) <<< (m 119 t &&& 31)) 0) t)), some (vI (nI t)), none] [] (h) 0 0 := by
  have hs := hc.s
  have hKb := hw.k.2
  have hTb := hw.t.2
  have hFb := hw.f.2
  have hRb := hw.r.2
  have hGb := hw.g.2
  have hAb := hw.a.2
  have hTlb := hw.tl.2
  have hNwb := hw.w.2
  intro n
  induction n with
  | zero =>
    intro t h1 h2
    refine g_iload_n (pc' := 5) dX11_holdersNow_4 rfl rfl ?_
    refine g_aload_n (pc' := 6) dX11_holdersNow_5 rfl rfl ?_
    refine g_getS (pc' := 9) (k := 11) (b := (13, 1)) dX11_holdersNow_6 rfl rfl ck_12 (by decide) fl_X11_35 rfl hs rfl ?_
    refine g_invV (pc' := 12) (ls_size hok hc.c6.1) dX11_holdersNow_9 rfl rfl ck_0 rfl ml_X11_103 im_Jx4a65c_size_8abf5 sl_Jx4a65c_size_8abf5 in_Jx4a65c co_Jx4a65c_size_8abf5 pd_Jx4a65c_size_8abf5 rfl (by omega) (by decide) ⟨by decide, by decide⟩ (Nat.le_of_ble_eq_true rfl) ?_
    rintro _ _ ⟨rfl, rfl⟩ -
    refine g_icmp_geN (tgt := 62) (pc' := 15) dX11_holdersNow_12 rfl (by decide) (by omega) (by omega) (fun c12 => ?_) (fun c12 => ?_)
    ·
      refine g_iload_n (pc' := 63) dX11_holdersNow_62 rfl rfl ?_
      refine g_iret dX11_holdersNow_63 rfl (by decide) (by decide) ?_
      have e : t = nT m := by omega
      subst e
      exact hQ
    · exact absurd c12 (by omega)
  | succ n ih =>
    intro t h1 h2
    refine g_iload_n (pc' := 5) dX11_holdersNow_4 rfl rfl ?_
    refine g_aload_n (pc' := 6) dX11_holdersNow_5 rfl rfl ?_
    refine g_getS (pc' := 9) (k := 11) (b := (13, 1)) dX11_holdersNow_6 rfl rfl ck_12 (by decide) fl_X11_35 rfl hs rfl ?_
    refine g_invV (pc' := 12) (ls_size hok hc.c6.1) dX11_holdersNow_9 rfl rfl ck_0 rfl ml_X11_103 im_Jx4a65c_size_8abf5 sl_Jx4a65c_size_8abf5 in_Jx4a65c co_Jx4a65c_size_8abf5 pd_Jx4a65c_size_8abf5 rfl (by omega) (by decide) ⟨by decide, by decide⟩ (Nat.le_of_ble_eq_true rfl) ?_
    rintro _ _ ⟨rfl, rfl⟩ -
    refine g_icmp_geN (tgt := 62) (pc' := 15) dX11_holdersNow_12 rfl (by decide) (by omega) (by omega) (fun c12 => ?_) (fun c12 => ?_)
    · exact absurd c12 (by omega)
    ·
      refine g_aload_n (pc' := 16) dX11_holdersNow_15 rfl rfl ?_
      refine g_getS (pc' := 19) (k := 11) (b := (13, 1)) dX11_holdersNow_16 rfl rfl ck_12 (by decide) fl_X11_35 rfl hs rfl ?_
      refine g_iload_n (pc' := 20) dX11_holdersNow_19 rfl rfl ?_
      refine g_invV (pc' := 23) (ls_get hok hc.c6.1 (j := t) (by omega) (by omega)) dX11_holdersNow_20 rfl rfl ck_0 rfl ml_X11_324 im_Jx4a65c_get_915e3 sl_Jx4a65c_get_915e3 in_Jx4a65c co_Jx4a65c_get_915e3 pd_Jx4a65c_get_915e3 rfl (by omega) (by decide) ⟨by decide, by decide⟩ (Nat.le_of_ble_eq_true rfl) ?_
      rintro _ _ ⟨rfl, rfl⟩ -
      refine g_cast (pc' := 26) dX11_holdersNow_23 rfl rfl ck_9 cl_X11_133 ?_
      refine g_astore (pc' := 28) dX11_holdersNow_26 rfl (by decide) rfl ?_
      try simp only [List.set]
      refine g_aload (pc' := 30) dX11_holdersNow_28 rfl rfl ?_
      refine g_getIv (v := m 118 (t)) (pc' := 33) (k := 7) dX11_holdersNow_30 rfl rfl ck_9 (by decide) fl_X11_264 rfl (hc.t7 (t := t) (by omega)) ?_
      refine g_iconstN (n := 1) (pc' := 34) dX11_holdersNow_33 rfl ?_
      refine g_icmp_ne (tgt := 56) (pc' := 37) dX11_holdersNow_34 rfl (by decide) (fun c34 => ?_) (fun c34 => ?_)
      ·
        refine g_iincN (k := 1) (pc' := 59) dX11_holdersNow_56 rfl rfl (by decide) rfl ?_
        try simp only [List.set]
        refine g_goto (tgt := 4) dX11_holdersNow_59 (by decide) ?_
        refine G.drop 4 ?_
        simp only [List.set]
        have q := ih (t + 1) (by omega) (by omega)
        have eo : orr (fun t => cif (m 118 t = 1 ∧ isOfm m r t) ((1 : Int32) <<< (m 119 t &&& 31)) 0) (t + 1) = orr (fun t => cif (m 118 t = 1 ∧ isOfm m r t) ((1 : Int32) <<< (m 119 t &&& 31)) 0) t ||| 0 := congrArg (fun z => orr (fun t => cif (m 118 t = 1 ∧ isOfm m r t) ((1 : Int32) <<< (m 119 t &&& 31)) 0) t ||| z) (cif_f (fun z => c34 z.1))
        rw [eo, Int32.or_zero] at q
        exact q
      ·
        refine g_aload_n (pc' := 38) dX11_holdersNow_37 rfl rfl ?_
        refine g_aload (pc' := 40) dX11_holdersNow_38 rfl rfl ?_
        refine g_invV (pc' := 43) (cx_covers hok hc hw (r := r) (t := t) (by omega) (by omega)) dX11_holdersNow_40 rfl rfl ck_5 rfl ml_X11_455 im_X4_covers sl_X4_covers in_X4 co_X4_covers pd_X4_covers rfl (by omega) (by decide) ⟨by decide, by decide⟩ (Nat.le_of_ble_eq_true rfl) ?_
        rintro _ _ ⟨rfl, rfl⟩ -
        refine g_ifB_eq (tgt := 56) (pc' := 46) dX11_holdersNow_43 rfl (by decide) (fun c43 => ?_) (fun c43 => ?_)
        ·
          refine g_iincN (k := 1) (pc' := 59) dX11_holdersNow_56 rfl rfl (by decide) rfl ?_
          try simp only [List.set]
          refine g_goto (tgt := 4) dX11_holdersNow_59 (by decide) ?_
          refine G.drop 4 ?_
          simp only [List.set]
          have q := ih (t + 1) (by omega) (by omega)
          have eo : orr (fun t => cif (m 118 t = 1 ∧ isOfm m r t) ((1 : Int32) <<< (m 119 t &&& 31)) 0) (t + 1) = orr (fun t => cif (m 118 t = 1 ∧ isOfm m r t) ((1 : Int32) <<< (m 119 t &&& 31)) 0) t ||| 0 := congrArg (fun z => orr (fun t => cif (m 118 t = 1 ∧ isOfm m r t) ((1 : Int32) <<< (m 119 t &&& 31)) 0) t ||| z) (cif_f (fun z => c43 z.2))
          rw [eo, Int32.or_zero] at q
          exact q
        ·
          refine g_iload_n (pc' := 47) dX11_holdersNow_46 rfl rfl ?_
          refine g_iconst (v := 1) (pc' := 48) dX11_holdersNow_47 rfl (by decide) ?_
          refine g_aload (pc' := 50) dX11_holdersNow_48 rfl rfl ?_
          refine g_getIv (v := m 119 (t)) (pc' := 53) (k := 8) dX11_holdersNow_50 rfl rfl ck_9 (by decide) fl_X11_271 rfl (hc.t8 (t := t) (by omega)) ?_
          refine g_ishl (pc' := 54) dX11_holdersNow_53 rfl ?_
          refine g_ior (pc' := 55) dX11_holdersNow_54 rfl ?_
          refine g_istore_n (pc' := 56) dX11_holdersNow_55 rfl (by decide) rfl ?_
          try simp only [List.set]
          refine g_iincN (k := 1) (pc' := 59) dX11_holdersNow_56 rfl rfl (by decide) rfl ?_
          try simp only [List.set]
          refine g_goto (tgt := 4) dX11_holdersNow_59 (by decide) ?_
          refine G.drop 4 ?_
          simp only [List.set]
          have q := ih (t + 1) (by omega) (by omega)
          have eo : orr (fun t => cif (m 118 t = 1 ∧ isOfm m r t) ((1 : Int32) <<< (m 119 t &&& 31)) 0) (t + 1) = orr (fun t => cif (m 118 t = 1 ∧ isOfm m r t) ((1 : Int32) <<< (m 119 t &&& 31)) 0) t ||| ((1 : Int32) <<< (m 119 t &&& 31)) := congrArg (fun z => orr (fun t => cif (m 118 t = 1 ∧ isOfm m r t) ((1 : Int32) <<< (m 119 t &&& 31)) 0) t ||| z) (cif_t ⟨c34, c43⟩)
          rw [eo] at q
          exact q
set_option maxRecDepth 4000 in
theorem cx_holdersNow {E : En} (hok : EOK E) {h : Hp} {m : St} (hc : Cp m h) (hw : Wf m) {r : Nat} (hr : r < nR m) : Call E m_X11_holdersNow 3 0 0 [vR TH, vR (5, r)] h (fun r0 h' => r0 = some (vI (hadN m r)) ∧ h = h') := by
  have hs := hc.s
  have hKb := hw.k.2
  have hTb := hw.t.2
  have hFb := hw.f.2
  have hRb := hw.r.2
  have hGb := hw.g.2
  have hAb := hw.a.2
  have hTlb := hw.tl.2
  have hNwb := hw.w.2
  refine Call.enter hok (by decide) (Nat.le_of_ble_eq_true rfl) ?_
  show G E m_X11_holdersNow 3 0 0 _ h 0 [some (vR TH), some (vR (5, r)), none, none, none] [] h 0 0
  refine g_iconst (v := 0) (pc' := 1) dX11_holdersNow_0 rfl (by decide) ?_
  refine g_istore_n (pc' := 2) dX11_holdersNow_1 rfl (by decide) rfl ?_
  try simp only [List.set]
  refine g_iconstN (n := 0) (pc' := 3) dX11_holdersNow_2 rfl ?_
  refine g_istore_n (pc' := 4) dX11_holdersNow_3 rfl (by decide) rfl ?_
  try simp only [List.set]
  exact lx_holdersNow hok hc hw hr (Nat.le_refl _) ⟨rfl, rfl⟩ _ 0 (Nat.zero_le _) rfl
set_option maxRecDepth 4000 in
theorem lx_toldSet {E : En} (hok : EOK E) {h h0 : Hp} {m : St} (hc : Cp m h) (hw : Wf m) {r : Nat} (hr : r < nR m) {d : Nat} (hd : 2 ≤ d) {Q : Option V → Hp → Prop} (hQ : Q (some (vI (orr (fun f => cif (¬ m 166 (10 * r + f) = -1) ((1 : Int32) <<< (nI f &&& 31)) 0) 10))) h) : ∀ n f : Nat, f ≤ 10 → 10 - f = n → G E m_X4_toldSet d 0 0 Q h0 4 [some (vR (5, r)), some (vI (orr (fun f => cif (¬ m 166 (10 * r + f) = -1) ((1 : Int32) <<< (nI f &&& 31)) 0) f)), some (vI (nI f))] [] (h) 0 0 := by
  have hs := hc.s
  have hKb := hw.k.2
  have hTb := hw.t.2
  have hFb := hw.f.2
  have hRb := hw.r.2
  have hGb := hw.g.2
  have hAb := hw.a.2
  have hTlb := hw.tl.2
  have hNwb := hw.w.2
  intro n
  induction n with
  | zero =>
    intro f h1 h2
    refine g_iload_n (pc' := 5) dX4_toldSet_4 rfl rfl ?_
    refine g_bipushN (n := 10) (pc' := 7) dX4_toldSet_5 rfl (by decide) ?_
    refine g_icmp_geN (tgt := 30) (pc' := 10) dX4_toldSet_7 rfl (by decide) (by omega) (by omega) (fun c7 => ?_) (fun c7 => ?_)
    ·
      refine g_iload_n (pc' := 31) dX4_toldSet_30 rfl rfl ?_
      refine g_iret dX4_toldSet_31 rfl (by decide) (by decide) ?_
      have e : f = 10 := by omega
      subst e
      exact hQ
    · exact absurd c7 (by omega)
  | succ n ih =>
    intro f h1 h2
    refine g_iload_n (pc' := 5) dX4_toldSet_4 rfl rfl ?_
    refine g_bipushN (n := 10) (pc' := 7) dX4_toldSet_5 rfl (by decide) ?_
    refine g_icmp_geN (tgt := 30) (pc' := 10) dX4_toldSet_7 rfl (by decide) (by omega) (by omega) (fun c7 => ?_) (fun c7 => ?_)
    · exact absurd c7 (by omega)
    ·
      refine g_aload_n (pc' := 11) dX4_toldSet_10 rfl rfl ?_
      refine g_iload_n (pc' := 12) dX4_toldSet_11 rfl rfl ?_
      refine g_invV (pc' := 15) (cx_wasTold hok hc hw (r := r) (f := f) (by omega) (by omega)) dX4_toldSet_12 rfl rfl ck_5 rfl ml_X4_50 im_X4_wasTold sl_X4_wasTold in_X4 co_X4_wasTold pd_X4_wasTold rfl (by omega) (by decide) ⟨by decide, by decide⟩ (Nat.le_of_ble_eq_true rfl) ?_
      rintro _ _ ⟨rfl, rfl⟩ -
      refine g_ifB_eq (tgt := 24) (pc' := 18) dX4_toldSet_15 rfl (by decide) (fun c15 => ?_) (fun c15 => ?_)
      ·
        refine g_iincN (k := 1) (pc' := 27) dX4_toldSet_24 rfl rfl (by decide) rfl ?_
        try simp only [List.set]
        refine g_goto (tgt := 4) dX4_toldSet_27 (by decide) ?_
        have q := ih (f + 1) (by omega) (by omega)
        have eo : orr (fun f => cif (¬ m 166 (10 * r + f) = -1) ((1 : Int32) <<< (nI f &&& 31)) 0) (f + 1) = orr (fun f => cif (¬ m 166 (10 * r + f) = -1) ((1 : Int32) <<< (nI f &&& 31)) 0) f ||| 0 := congrArg (fun z => orr (fun f => cif (¬ m 166 (10 * r + f) = -1) ((1 : Int32) <<< (nI f &&& 31)) 0) f ||| z) (cif_f c15)
        rw [eo, Int32.or_zero] at q
        exact q
      ·
        refine g_iload_n (pc' := 19) dX4_toldSet_18 rfl rfl ?_
        refine g_iconst (v := 1) (pc' := 20) dX4_toldSet_19 rfl (by decide) ?_
        refine g_iload_n (pc' := 21) dX4_toldSet_20 rfl rfl ?_
        refine g_ishl (pc' := 22) dX4_toldSet_21 rfl ?_
        refine g_ior (pc' := 23) dX4_toldSet_22 rfl ?_
        refine g_istore_n (pc' := 24) dX4_toldSet_23 rfl (by decide) rfl ?_
        try simp only [List.set]
        refine g_iincN (k := 1) (pc' := 27) dX4_toldSet_24 rfl rfl (by decide) rfl ?_
        try simp only [List.set]
        refine g_goto (tgt := 4) dX4_toldSet_27 (by decide) ?_
        have q := ih (f + 1) (by omega) (by omega)
        have eo : orr (fun f => cif (¬ m 166 (10 * r + f) = -1) ((1 : Int32) <<< (nI f &&& 31)) 0) (f + 1) = orr (fun f => cif (¬ m 166 (10 * r + f) = -1) ((1 : Int32) <<< (nI f &&& 31)) 0) f ||| ((1 : Int32) <<< (nI f &&& 31)) := congrArg (fun z => orr (fun f => cif (¬ m 166 (10 * r + f) = -1) ((1 : Int32) <<< (nI f &&& 31)) 0) f ||| z) (cif_t c15)
        rw [eo] at q
        exact q
set_option maxRecDepth 4000 in
theorem cx_toldSet {E : En} (hok : EOK E) {h : Hp} {m : St} (hc : Cp m h) (hw : Wf m) {r : Nat} (hr : r < nR m) : Call E m_X4_toldSet 2 0 0 [vR (5, r)] h (fun r0 h' => r0 = some (vI (orr (fun f => cif (¬ m 166 (10 * r + f) = -1) ((1 : Int32) <<< (nI f &&& 31)) 0) 10)) ∧ h = h') := by
  have hs := hc.s
  have hKb := hw.k.2
  have hTb := hw.t.2
  have hFb := hw.f.2
  have hRb := hw.r.2
  have hGb := hw.g.2
  have hAb := hw.a.2
  have hTlb := hw.tl.2
  have hNwb := hw.w.2
  refine Call.enter hok (by decide) (Nat.le_of_ble_eq_true rfl) ?_
  show G E m_X4_toldSet 2 0 0 _ h 0 [some (vR (5, r)), none, none] [] h 0 0
  refine g_iconst (v := 0) (pc' := 1) dX4_toldSet_0 rfl (by decide) ?_
  refine g_istore_n (pc' := 2) dX4_toldSet_1 rfl (by decide) rfl ?_
  try simp only [List.set]
  refine g_iconstN (n := 0) (pc' := 3) dX4_toldSet_2 rfl ?_
  refine g_istore_n (pc' := 4) dX4_toldSet_3 rfl (by decide) rfl ?_
  try simp only [List.set]
  exact lx_toldSet hok hc hw hr (Nat.le_refl _) ⟨rfl, rfl⟩ _ 0 (Nat.zero_le _) rfl
set_option maxRecDepth 4000 in
theorem lx_toldInTime {E : En} (hok : EOK E) {h h0 : Hp} {m : St} (hc : Cp m h) (hw : Wf m) {r : Nat} (hr : r < nR m) {d : Nat} (hd : 2 ≤ d) {Q : Option V → Hp → Prop} (hQ : Q (some (vI (nI (cnt (rcP m r) 10)))) h) : ∀ n f : Nat, f ≤ 10 → 10 - f = n → G E m_X4_toldInTime d 0 0 Q h0 4 [some (vR (5, r)), some (vI (nI (cnt (rcP m r) f))), some (vI (nI f)), none] [] (h) 0 0 := by
  have hs := hc.s
  have hKb := hw.k.2
  have hTb := hw.t.2
  have hFb := hw.f.2
  have hRb := hw.r.2
  have hGb := hw.g.2
  have hAb := hw.a.2
  have hTlb := hw.tl.2
  have hNwb := hw.w.2
  intro n
  induction n with
  | zero =>
    intro f h1 h2
    refine g_iload_n (pc' := 5) dX4_toldInTime_4 rfl rfl ?_
    refine g_bipushN (n := 10) (pc' := 7) dX4_toldInTime_5 rfl (by decide) ?_
    refine g_icmp_geN (tgt := 64) (pc' := 10) dX4_toldInTime_7 rfl (by decide) (by omega) (by omega) (fun c7 => ?_) (fun c7 => ?_)
    ·
      refine g_iload_n (pc' := 65) dX4_toldInTime_64 rfl rfl ?_
      refine g_iret dX4_toldInTime_65 rfl (by decide) (by decide) ?_
      have e : f = 10 := by omega
      subst e
      exact hQ
    · exact absurd c7 (by omega)
  | succ n ih =>
    intro f h1 h2
    refine g_iload_n (pc' := 5) dX4_toldInTime_4 rfl rfl ?_
    refine g_bipushN (n := 10) (pc' := 7) dX4_toldInTime_5 rfl (by decide) ?_
    refine g_icmp_geN (tgt := 64) (pc' := 10) dX4_toldInTime_7 rfl (by decide) (by omega) (by omega) (fun c7 => ?_) (fun c7 => ?_)
    · exact absurd c7 (by omega)
    ·
      refine g_aload_n (pc' := 11) dX4_toldInTime_10 rfl rfl ?_
      refine g_getIv (v := m 165 (r)) (pc' := 14) (k := 5) dX4_toldInTime_11 rfl rfl ck_5 (by decide) fl_X4_54 rfl (hc.r5 (r := r) (by omega)) ?_
      refine g_iload_n (pc' := 15) dX4_toldInTime_14 rfl rfl ?_
      refine g_ishr (pc' := 16) dX4_toldInTime_15 rfl ?_
      refine g_iconstN (n := 1) (pc' := 17) dX4_toldInTime_16 rfl ?_
      refine g_iand (pc' := 18) dX4_toldInTime_17 rfl ?_
      refine g_iconstN (n := 1) (pc' := 19) dX4_toldInTime_18 rfl ?_
      refine g_icmp_ne (tgt := 26) (pc' := 22) dX4_toldInTime_19 rfl (by decide) (fun c19 => ?_) (fun c19 => ?_)
      ·
        refine g_iconstN (n := 0) (pc' := 27) dX4_toldInTime_26 rfl ?_
        refine g_istore_n (pc' := 28) dX4_toldInTime_27 rfl (by decide) rfl ?_
        try simp only [List.set]
        refine g_iload_n (pc' := 29) dX4_toldInTime_28 rfl rfl ?_
        refine g_if_eqN (tgt := 58) (pc' := 32) dX4_toldInTime_29 rfl (by decide) (by decide) (fun _ => ?_) (fun q => False.elim (by revert q; decide))
        refine g_iincN (k := 1) (pc' := 61) dX4_toldInTime_58 rfl rfl (by decide) rfl ?_
        try simp only [List.set]
        refine g_goto (tgt := 4) dX4_toldInTime_61 (by decide) ?_
        refine G.drop 3 ?_
        simp only [List.set]
        have q := ih (f + 1) (by omega) (by omega)
        rw [cnt_f (p := (rcP m r)) (fun z => c19 z.1), Nat.add_zero] at q
        exact q
      ·
        refine g_iconstN (n := 1) (pc' := 23) dX4_toldInTime_22 rfl ?_
        refine g_goto (tgt := 27) dX4_toldInTime_23 (by decide) ?_
        refine g_istore_n (pc' := 28) dX4_toldInTime_27 rfl (by decide) rfl ?_
        try simp only [List.set]
        refine g_iload_n (pc' := 29) dX4_toldInTime_28 rfl rfl ?_
        refine g_if_eqN (tgt := 58) (pc' := 32) dX4_toldInTime_29 rfl (by decide) (by decide) (fun q => False.elim (by revert q; decide)) (fun _ => ?_)
        refine g_aload_n (pc' := 33) dX4_toldInTime_32 rfl rfl ?_
        refine g_iload_n (pc' := 34) dX4_toldInTime_33 rfl rfl ?_
        refine g_invV (pc' := 37) (cx_wasTold hok hc hw (r := r) (f := f) (by omega) (by omega)) dX4_toldInTime_34 rfl rfl ck_5 rfl ml_X4_50 im_X4_wasTold sl_X4_wasTold in_X4 co_X4_wasTold pd_X4_wasTold rfl (by omega) (by decide) ⟨by decide, by decide⟩ (Nat.le_of_ble_eq_true rfl) ?_
        rintro _ _ ⟨rfl, rfl⟩ -
        refine g_ifB_eq (tgt := 58) (pc' := 40) dX4_toldInTime_37 rfl (by decide) (fun c37 => ?_) (fun c37 => ?_)
        ·
          refine g_iincN (k := 1) (pc' := 61) dX4_toldInTime_58 rfl rfl (by decide) rfl ?_
          try simp only [List.set]
          refine g_goto (tgt := 4) dX4_toldInTime_61 (by decide) ?_
          refine G.drop 3 ?_
          simp only [List.set]
          have q := ih (f + 1) (by omega) (by omega)
          rw [cnt_f (p := (rcP m r)) (fun z => c37 z.2.1), Nat.add_zero] at q
          exact q
        ·
          refine g_aload_n (pc' := 41) dX4_toldInTime_40 rfl rfl ?_
          refine g_getS (pc' := 44) (k := 4) (b := (30, r)) dX4_toldInTime_41 rfl rfl ck_5 (by decide) fl_X4_24 rfl hs rfl ?_
          refine g_iload_n (pc' := 45) dX4_toldInTime_44 rfl rfl ?_
          refine g_ialdN (pc' := 46) (v := m 166 (10 * r + f)) dX4_toldInTime_45 rfl rfl (by decide) (by omega) ((hc.c9.2.1 r hr).2 f (by omega)) ?_
          refine g_aload_n (pc' := 47) dX4_toldInTime_46 rfl rfl ?_
          refine g_getIv (v := m 164 (r)) (pc' := 50) (k := 3) dX4_toldInTime_47 rfl rfl ck_5 (by decide) fl_X4_21 rfl (hc.r3 (r := r) (by omega)) ?_
          refine g_iconstN (n := 1) (pc' := 51) dX4_toldInTime_50 rfl ?_
          refine g_iadd (pc' := 52) dX4_toldInTime_51 rfl ?_
          refine g_icmp_gt (tgt := 58) (pc' := 55) dX4_toldInTime_52 rfl (by decide) (fun c52 => ?_) (fun c52 => ?_)
          ·
            refine g_iincN (k := 1) (pc' := 61) dX4_toldInTime_58 rfl rfl (by decide) rfl ?_
            try simp only [List.set]
            refine g_goto (tgt := 4) dX4_toldInTime_61 (by decide) ?_
            refine G.drop 3 ?_
            simp only [List.set]
            have q := ih (f + 1) (by omega) (by omega)
            rw [cnt_f (p := (rcP m r)) (fun z => absurd z.2.2 (Int32.not_le.mpr c52)), Nat.add_zero] at q
            exact q
          ·
            refine g_iincN (k := 1) (pc' := 58) dX4_toldInTime_55 rfl rfl (by decide) rfl ?_
            try simp only [List.set]
            refine g_iincN (k := 1) (pc' := 61) dX4_toldInTime_58 rfl rfl (by decide) rfl ?_
            try simp only [List.set]
            refine g_goto (tgt := 4) dX4_toldInTime_61 (by decide) ?_
            refine G.drop 3 ?_
            simp only [List.set]
            have q := ih (f + 1) (by omega) (by omega)
            rw [cnt_t (p := (rcP m r)) ⟨c19, c37, Int32.not_lt.mp c52⟩] at q
            exact q
set_option maxRecDepth 4000 in
theorem cx_toldInTime {E : En} (hok : EOK E) {h : Hp} {m : St} (hc : Cp m h) (hw : Wf m) {r : Nat} (hr : r < nR m) : Call E m_X4_toldInTime 2 0 0 [vR (5, r)] h (fun r0 h' => r0 = some (vI (nI (cnt (rcP m r) 10))) ∧ h = h') := by
  have hs := hc.s
  have hKb := hw.k.2
  have hTb := hw.t.2
  have hFb := hw.f.2
  have hRb := hw.r.2
  have hGb := hw.g.2
  have hAb := hw.a.2
  have hTlb := hw.tl.2
  have hNwb := hw.w.2
  refine Call.enter hok (by decide) (Nat.le_of_ble_eq_true rfl) ?_
  show G E m_X4_toldInTime 2 0 0 _ h 0 [some (vR (5, r)), none, none, none] [] h 0 0
  refine g_iconstN (n := 0) (pc' := 1) dX4_toldInTime_0 rfl ?_
  refine g_istore_n (pc' := 2) dX4_toldInTime_1 rfl (by decide) rfl ?_
  try simp only [List.set]
  refine g_iconstN (n := 0) (pc' := 3) dX4_toldInTime_2 rfl ?_
  refine g_istore_n (pc' := 4) dX4_toldInTime_3 rfl (by decide) rfl ?_
  try simp only [List.set]
  exact lx_toldInTime hok hc hw hr (Nat.le_refl _) ⟨rfl, rfl⟩ _ 0 (Nat.zero_le _) rfl
theorem rcP_10 {m : St} (hw : Wf m) (hx : Wx m) {r : Nat} : cnt (rcP m r) 10 = cnt (rcP m r) (nF m) :=
  cnt_ext hw.f.2 (fun f h1 h2 z => z.2.1 (hx.zr r f (Or.inr h1) h2))
theorem rcU_eq {m : St} (hw : Wf m) (hx : Wx m) {r : Nat} : hadN m r &&& (orr (fun f => cif (¬ m 166 (10 * r + f) = -1) ((1 : Int32) <<< (nI f &&& 31)) 0) 10 ^^^ (-1)) = hadN m r &&& rcU m r := by
  have hF := hw.f.2
  refine bt_eq fun j hj => ?_
  rw [bt_and, bt_and, Bool.and_eq_true, Bool.and_eq_true]
  refine and_congr_right fun q => ?_
  obtain ⟨t, ht, q⟩ := (bt_orr _ j _).mp q
  obtain ⟨⟨q1, -⟩, q2⟩ := bt_cif.mp q
  obtain ⟨f, hf, ef⟩ := (hx.ho t ht).2 q1
  rw [ef, bt_one (by omega), decide_eq_true_eq] at q2
  subst q2
  rw [bt_neg _ hj, Bool.not_eq_true', ← Bool.not_eq_true, bt_orr]
  unfold rcU
  rw [bt_orr]
  constructor
  · intro z
    refine ⟨j, hf, bt_cif.mpr ⟨Classical.byContradiction fun y => z ⟨j, by omega, bt_cif.mpr ⟨y, ?_⟩⟩, ?_⟩⟩
    · rw [bt_one hj]; exact decide_eq_true rfl
    · rw [bt_one hj]; exact decide_eq_true rfl
  · rintro ⟨g, hg, z⟩ ⟨f, hf', y⟩
    obtain ⟨z1, z2⟩ := bt_cif.mp z
    obtain ⟨y1, y2⟩ := bt_cif.mp y
    rw [bt_one (by omega), decide_eq_true_eq] at z2 y2
    subst z2
    subst y2
    exact y1 z1
set_option maxRecDepth 4000 in
theorem cx_recalled {E : En} (hok : EOK E) {h : Hp} {m : St} (hc : Cp m h) (hw : Wf m) (hx : Wx m) (r0 : Int32) (x : Int32) : Call E m_X11_recalled 4 0 0 [vR TH, vI r0, vI x] h (fun r h' => r = some (vI (sRecalled m r0 x).1) ∧ Cp (sRecalled m r0 x).2 h' ∧ mo h' = mo h) := by
  have hs := hc.s
  have hKb := hw.k.2
  have hTb := hw.t.2
  have hFb := hw.f.2
  have hRb := hw.r.2
  have hGb := hw.g.2
  have hAb := hw.a.2
  have hTlb := hw.tl.2
  have hNwb := hw.w.2
  refine Call.enter hok (by decide) (Nat.le_of_ble_eq_true rfl) ?_
  show G E m_X11_recalled 4 0 0 _ h 0 [some (vR TH), some (vI r0), some (vI x), none] [] h 0 0
  refine g_aload_n (pc' := 1) dX11_recalled_0 rfl rfl ?_
  refine g_iload_n (pc' := 2) dX11_recalled_1 rfl rfl ?_
  rcases Classical.em (∃ j : Nat, j < nR m ∧ r0 = nI j) with w2 | w2
  ·
    have k2 := w2
    obtain ⟨r, hr, rfl⟩ := k2
    refine g_invV (pc' := 5) (cx_recallAt hok hc hw hr) dX11_recalled_2 rfl rfl ck_12 rfl ml_X11_426 im_X11_recallAt sl_X11_recallAt in_X11 co_X11_recallAt pd_X11_recallAt rfl (by omega) (by decide) ⟨by decide, by decide⟩ (Nat.le_of_ble_eq_true rfl) ?_
    rintro _ _ ⟨rfl, rfl⟩ -
    refine g_astore_n (pc' := 6) dX11_recalled_5 rfl (by decide) rfl ?_
    try simp only [List.set]
    refine g_aload_n (pc' := 7) dX11_recalled_6 rfl rfl ?_
    refine g_ifnonnull (tgt := 12) dX11_recalled_7 (by decide) ?_
    refine g_iload_n (pc' := 13) dX11_recalled_12 rfl rfl ?_
    rcases Classical.em (x = nI 0) with rfl | w0
    ·
      refine g_tabIn (off := 31) (tgt := 44) dX11_recalled_13 (by decide) (by decide) rfl (by decide) ?_
      refine g_aload_n (pc' := 45) dX11_recalled_44 rfl rfl ?_
      refine g_aload_n (pc' := 46) dX11_recalled_45 rfl rfl ?_
      refine g_invV (pc' := 49) (cx_toysOfRecall hok hc hw hr) dX11_recalled_46 rfl rfl ck_12 rfl ml_X11_436 im_X11_toysOfRecall sl_X11_toysOfRecall in_X11 co_X11_toysOfRecall pd_X11_toysOfRecall rfl (by omega) (by decide) ⟨by decide, by decide⟩ (Nat.le_of_ble_eq_true rfl) ?_
      rintro _ _ ⟨rfl, rfl⟩ -
      refine g_iret dX11_recalled_49 rfl (by decide) (by decide) ?_
      have e : sRecalled m (nI r) (nI 0) = (rcA m r (nI 0), m) := by unfold sRecalled; simp only [nI_clamp (show r < 2 ^ 31 by omega)]; exact cif_t ⟨⟨r, hr, rfl⟩, by decide⟩
      rw [e]
      exact ⟨congrArg (fun z : Int32 => some (vI z)) (show _ = rcA m r (nI 0) from (cif_t rfl).symm), hc, rfl⟩
    rcases Classical.em (x = nI 1) with rfl | w1
    ·
      refine g_tabIn (off := 37) (tgt := 50) dX11_recalled_13 (by decide) (by decide) rfl (by decide) ?_
      refine g_aload_n (pc' := 51) dX11_recalled_50 rfl rfl ?_
      refine g_getIv (v := m 165 (r)) (pc' := 54) (k := 5) dX11_recalled_51 rfl rfl ck_5 (by decide) fl_X11_423 rfl (hc.r5 (r := r) (by omega)) ?_
      refine g_iret dX11_recalled_54 rfl (by decide) (by decide) ?_
      have e : sRecalled m (nI r) (nI 1) = (rcA m r (nI 1), m) := by unfold sRecalled; simp only [nI_clamp (show r < 2 ^ 31 by omega)]; exact cif_t ⟨⟨r, hr, rfl⟩, by decide⟩
      rw [e]
      exact ⟨congrArg (fun z : Int32 => some (vI z)) (show _ = rcA m r (nI 1) from ((cif_f (by decide)).trans (cif_t rfl)).symm), hc, rfl⟩
    rcases Classical.em (x = nI 2) with rfl | w2
    ·
      refine g_tabIn (off := 42) (tgt := 55) dX11_recalled_13 (by decide) (by decide) rfl (by decide) ?_
      refine g_aload_n (pc' := 56) dX11_recalled_55 rfl rfl ?_
      refine g_invV (pc' := 59) (cx_toldInTime hok hc hw hr) dX11_recalled_56 rfl rfl ck_5 rfl ml_X11_439 im_X4_toldInTime sl_X4_toldInTime in_X4 co_X4_toldInTime pd_X4_toldInTime rfl (by omega) (by decide) ⟨by decide, by decide⟩ (Nat.le_of_ble_eq_true rfl) ?_
      rintro _ _ ⟨rfl, rfl⟩ -
      refine g_iret dX11_recalled_59 rfl (by decide) (by decide) ?_
      have e : sRecalled m (nI r) (nI 2) = (rcA m r (nI 2), m) := by unfold sRecalled; simp only [nI_clamp (show r < 2 ^ 31 by omega)]; exact cif_t ⟨⟨r, hr, rfl⟩, by decide⟩
      rw [e]
      exact ⟨congrArg (fun z : Int32 => some (vI z)) (show _ = rcA m r (nI 2) from ((cif_f (by decide)).trans ((cif_f (by decide)).trans ((cif_t rfl).trans (by rw [rcP_10 hw hx])))).symm), hc, rfl⟩
    rcases Classical.em (x = nI 3) with rfl | w3
    ·
      refine g_tabIn (off := 47) (tgt := 60) dX11_recalled_13 (by decide) (by decide) rfl (by decide) ?_
      refine g_aload_n (pc' := 61) dX11_recalled_60 rfl rfl ?_
      refine g_aload_n (pc' := 62) dX11_recalled_61 rfl rfl ?_
      refine g_invV (pc' := 65) (cx_holdersNow hok hc hw hr) dX11_recalled_62 rfl rfl ck_12 rfl ml_X11_419 im_X11_holdersNow sl_X11_holdersNow in_X11 co_X11_holdersNow pd_X11_holdersNow rfl (by omega) (by decide) ⟨by decide, by decide⟩ (Nat.le_of_ble_eq_true rfl) ?_
      rintro _ _ ⟨rfl, rfl⟩ -
      refine g_aload_n (pc' := 66) dX11_recalled_65 rfl rfl ?_
      refine g_invV (pc' := 69) (cx_toldSet hok hc hw hr) dX11_recalled_66 rfl rfl ck_5 rfl ml_X11_442 im_X4_toldSet sl_X4_toldSet in_X4 co_X4_toldSet pd_X4_toldSet rfl (by omega) (by decide) ⟨by decide, by decide⟩ (Nat.le_of_ble_eq_true rfl) ?_
      rintro _ _ ⟨rfl, rfl⟩ -
      refine g_iconst (v := -1) (pc' := 70) dX11_recalled_69 rfl (by decide) ?_
      refine g_ixor (pc' := 71) dX11_recalled_70 rfl ?_
      refine g_iand (pc' := 72) dX11_recalled_71 rfl ?_
      refine g_iret dX11_recalled_72 rfl (by decide) (by decide) ?_
      have e : sRecalled m (nI r) (nI 3) = (rcA m r (nI 3), m) := by unfold sRecalled; simp only [nI_clamp (show r < 2 ^ 31 by omega)]; exact cif_t ⟨⟨r, hr, rfl⟩, by decide⟩
      rw [e]
      exact ⟨congrArg (fun z : Int32 => some (vI z)) (show _ = rcA m r (nI 3) from ((cif_f (by decide)).trans ((cif_f (by decide)).trans ((cif_f (by decide)).trans (rcU_eq hw hx).symm))).symm), hc, rfl⟩
    refine g_tabOut (tgt := 73) dX11_recalled_13 (tab_out 3 (fun i hi => by rcases (show i = 0 ∨ i = 1 ∨ i = 2 ∨ i = 3 by omega) with rfl | rfl | rfl | rfl <;> assumption)) (by decide) ?_
    refine g_iconst (v := -1) (pc' := 74) dX11_recalled_73 rfl (by decide) ?_
    refine g_iret dX11_recalled_74 rfl (by decide) (by decide) ?_
    have e : sRecalled m (nI r) x = (-1, m) := cif_f (fun z => by obtain ⟨j, hj, rfl⟩ := four_iff.mp z.2; rcases (show j = 0 ∨ j = 1 ∨ j = 2 ∨ j = 3 by omega) with rfl | rfl | rfl | rfl <;> contradiction)
    rw [e]
    exact ⟨rfl, hc, rfl⟩
  ·
    refine g_invV (pc' := 5) (cx_recallAtN hok hc hw w2) dX11_recalled_2 rfl rfl ck_12 rfl ml_X11_426 im_X11_recallAt sl_X11_recallAt in_X11 co_X11_recallAt pd_X11_recallAt rfl (by omega) (by decide) ⟨by decide, by decide⟩ (Nat.le_of_ble_eq_true rfl) ?_
    rintro _ _ ⟨rfl, rfl⟩ -
    refine g_astore_n (pc' := 6) dX11_recalled_5 rfl (by decide) rfl ?_
    try simp only [List.set]
    refine g_aload_n (pc' := 7) dX11_recalled_6 rfl rfl ?_
    refine g_ifnonnullN (pc' := 10) dX11_recalled_7 rfl ?_
    refine g_iconst (v := -1) (pc' := 11) dX11_recalled_10 rfl (by decide) ?_
    refine g_iret dX11_recalled_11 rfl (by decide) (by decide) ?_
    have e : sRecalled m r0 x = (-1, m) := cif_f (fun z => w2 z.1)
    rw [e]
    exact ⟨rfl, hc, rfl⟩
