theorem rng {x : Int32} {n : Nat} {y : Int32} (hy : y = nI n) (hn : n < 2 ^ 30) (q : 0 ≤ x ∧ x ≤ y) : ∃ j : Nat, j ≤ n ∧ x = nI j := by
  subst hy
  obtain ⟨a, b⟩ := q
  rw [Int32.le_iff_toInt_le] at a b
  have a' : (0 : Int) ≤ x.toInt := a
  rw [nI_toInt (by omega)] at b
  refine ⟨x.toInt.toNat, by omega, ?_⟩
  rw [← Int32.toInt_inj, nI_toInt (by omega)]
  omega
theorem cam_iff {a c d : Int32} {A : Nat} (ha : a = nI A) (hA : A ≤ 699) (hc : 0 ≤ c ∧ c ≤ 699) (hd : 1 ≤ d ∧ d ≤ 700) : d ≤ a - c ↔ c ≤ a - d := by
  obtain ⟨C, hC, rfl⟩ := rng (n := 699) rfl (by decide) hc
  obtain ⟨D, hD, rfl⟩ := rng (x := d) (n := 700) rfl (by decide) ⟨Int32.le_trans (by decide) hd.1, hd.2⟩
  subst ha
  rw [Int32.le_iff_toInt_le, Int32.le_iff_toInt_le, pk_sub_toInt (by omega) (by omega), pk_sub_toInt (by omega) (by omega), nI_toInt (by omega), nI_toInt (by omega)]
  omega
theorem whyR_pos (m : St) (t : Nat) : 0 < whyR m t := by
  unfold whyR cif
  repeat' split
  all_goals omega
theorem whyF_pos (m : St) (t : Nat) (x : Int32) : 0 < whyF m t x ↔ unwd m t x := by
  by_cases q : unwd m t x
  · unfold whyF
    rw [cif_t q]
    exact ⟨fun _ => q, fun _ => whyR_pos m t⟩
  · unfold whyF
    rw [cif_f q]
    exact ⟨fun z => absurd z (Nat.lt_irrefl 0), fun z => absurd z q⟩
set_option maxRecDepth 4000 in
theorem cx_isUnwanted {E : En} (hok : EOK E) {h : Hp} {m : St} (hc : Cp m h) (hw : Wf m) {t : Nat} (ht : t < nT m) (hx : Wx m) {d : Int32} (hd : 1 ≤ d ∧ d ≤ 700) : Call E m_X11_isUnwanted 4 0 0 [vR TH, vR (3, t), vI d] h (fun r0 h' => r0 = some (vI (bi (unwd m t d))) ∧ h = h') := by
  have hs := hc.s
  have hKb := hw.k.2
  have hTb := hw.t.2
  have hFb := hw.f.2
  have hRb := hw.r.2
  have hGb := hw.g.2
  have hAb := hw.a.2
  have hTlb := hw.tl.2
  have hNwb := hw.w.2
  have hkd := (hw.kd ht).2
  have hwb : wfr m (kd m t) ≤ nF m := cnt_le _ _
  refine Call.enter hok (by decide) (Nat.le_of_ble_eq_true rfl) ?_
  show G E m_X11_isUnwanted 4 0 0 _ h 0 [some (vR TH), some (vR (3, t)), some (vI d)] [] h 0 0
  refine g_aload_n (pc' := 1) dX11_isUnwanted_0 rfl rfl ?_
  refine g_getIv (v := m 118 (t)) (pc' := 4) (k := 7) dX11_isUnwanted_1 rfl rfl ck_9 (by decide) fl_X11_264 rfl (hc.t7 (t := t) (by omega)) ?_
  refine g_if_ne (tgt := 35) (pc' := 7) dX11_isUnwanted_4 rfl (by decide) (fun c4 => ?_) (fun c4 => ?_)
  ·
    refine g_iconstN (n := 0) (pc' := 36) dX11_isUnwanted_35 rfl ?_
    refine g_zret dX11_isUnwanted_36 rfl (by rfl) (by decide) (by decide) ?_
    exact ⟨congrArg (fun z : Int32 => some (vI z)) (bi_f (P := unwd m t d) (fun z => c4 z.1)).symm, rfl⟩
  ·
    refine g_aload_n (pc' := 8) dX11_isUnwanted_7 rfl rfl ?_
    refine g_getIv (v := m 1 2) (pc' := 11) (k := 0) dX11_isUnwanted_8 rfl rfl ck_12 (by decide) fl_X11_95 rfl (hc.c1.1) ?_
    refine g_aload_n (pc' := 12) dX11_isUnwanted_11 rfl rfl ?_
    refine g_getIv (v := m 123 t) (pc' := 15) (k := 11) dX11_isUnwanted_12 rfl rfl ck_9 (by decide) fl_X11_515 rfl ((hc.c6.2.1 t ht).2.1.2.2.2.2.2.2.1 c4) ?_
    refine g_isub (pc' := 16) dX11_isUnwanted_15 rfl ?_
    refine g_iload_n (pc' := 17) dX11_isUnwanted_16 rfl rfl ?_
    refine g_icmp_lt (tgt := 35) (pc' := 20) dX11_isUnwanted_17 rfl (by decide) (fun c17 => ?_) (fun c17 => ?_)
    ·
      refine g_iconstN (n := 0) (pc' := 36) dX11_isUnwanted_35 rfl ?_
      refine g_zret dX11_isUnwanted_36 rfl (by rfl) (by decide) (by decide) ?_
      exact ⟨congrArg (fun z : Int32 => some (vI z)) (bi_f (P := unwd m t d) (fun z => absurd ((cam_iff hw.w.1 hw.w.2 (hx.2.2.1 t ht) hd).mpr z.2.1) (Int32.not_le.mpr c17))).symm, rfl⟩
    ·
      refine g_aload_n (pc' := 21) dX11_isUnwanted_20 rfl rfl ?_
      refine g_aload_n (pc' := 22) dX11_isUnwanted_21 rfl rfl ?_
      refine g_getR (pc' := 25) (k := 1) (r := some (2, kd m t)) dX11_isUnwanted_22 rfl rfl ck_9 (by decide) fl_X11_203 rfl ((hc.c6.2.1 _ (by omega)).1) ?_
      refine g_invV (pc' := 28) (cx_waitingFor hok hc hw (k := kd m t) (by omega)) dX11_isUnwanted_25 rfl rfl ck_12 rfl ml_X11_347 im_X11_waitingFor sl_X11_waitingFor in_X11 co_X11_waitingFor pd_X11_waitingFor rfl (by omega) (by decide) ⟨by decide, by decide⟩ (Nat.le_of_ble_eq_true rfl) ?_
      rintro _ _ ⟨rfl, rfl⟩ -
      refine g_if_neN (tgt := 35) (pc' := 31) dX11_isUnwanted_28 rfl (by decide) (by omega) (fun c28 => ?_) (fun c28 => ?_)
      ·
        refine g_iconstN (n := 0) (pc' := 36) dX11_isUnwanted_35 rfl ?_
        refine g_zret dX11_isUnwanted_36 rfl (by rfl) (by decide) (by decide) ?_
        exact ⟨congrArg (fun z : Int32 => some (vI z)) (bi_f (P := unwd m t d) (fun z => c28 z.2.2)).symm, rfl⟩
      ·
        refine g_iconstN (n := 1) (pc' := 32) dX11_isUnwanted_31 rfl ?_
        refine g_goto (tgt := 36) dX11_isUnwanted_32 (by decide) ?_
        refine g_zret dX11_isUnwanted_36 rfl (by rfl) (by decide) (by decide) ?_
        exact ⟨congrArg (fun z : Int32 => some (vI z)) (bi_t (P := unwd m t d) (⟨c4, (cam_iff hw.w.1 hw.w.2 (hx.2.2.1 t ht) hd).mp (Int32.not_lt.mp c17), c28⟩)).symm, rfl⟩
set_option maxRecDepth 4000 in
theorem lx_unwanted {E : En} (hok : EOK E) {h h0 : Hp} {m : St} (hc : Cp m h) (hw : Wf m) {x : Int32} (hx : Wx m) (hdx : 1 ≤ x ∧ x ≤ 700) {d : Nat} (hd : 5 ≤ d) {Q : Option V → Hp → Prop} (hQ : Q (some (vI (unwS m x))) h) : ∀ n t : Nat, t ≤ nT m → nT m - t = n → G E m_X11_unwanted d 0 0 Q h0 17 [some (vR TH), some (vI x), some (vI (orr (fun t => cif (0 < whyF m t x) ((1 : Int32) <<< (nI t &&& 31)) 0) t)), some (vI (nI t))] [] (h) 0 0 := by
  have hs := hc.s
  have hKb := hw.k.2
  have hTb := hw.t.2
  have hFb := hw.f.2
  have hRb := hw.r.2
  have hGb := hw.g.2
  have hAb := hw.a.2
  have hTlb := hw.tl.2
  have hNwb := hw.w.2
  intro n
  induction n with
  | zero =>
    intro t h1 h2
    refine g_iload_n (pc' := 18) dX11_unwanted_17 rfl rfl ?_
    refine g_aload_n (pc' := 19) dX11_unwanted_18 rfl rfl ?_
    refine g_getS (pc' := 22) (k := 11) (b := (13, 1)) dX11_unwanted_19 rfl rfl ck_12 (by decide) fl_X11_35 rfl hs rfl ?_
    refine g_invV (pc' := 25) (ls_size hok hc.c6.1) dX11_unwanted_22 rfl rfl ck_0 rfl ml_X11_103 im_Jx4a65c_size_8abf5 sl_Jx4a65c_size_8abf5 in_Jx4a65c co_Jx4a65c_size_8abf5 pd_Jx4a65c_size_8abf5 rfl (by omega) (by decide) ⟨by decide, by decide⟩ (Nat.le_of_ble_eq_true rfl) ?_
    rintro _ _ ⟨rfl, rfl⟩ -
    refine g_icmp_geN (tgt := 59) (pc' := 28) dX11_unwanted_25 rfl (by decide) (by omega) (by omega) (fun c25 => ?_) (fun c25 => ?_)
    ·
      refine g_iload_n (pc' := 60) dX11_unwanted_59 rfl rfl ?_
      refine g_iret dX11_unwanted_60 rfl (by decide) (by decide) ?_
      have e : t = nT m := by omega
      subst e
      exact hQ
    · exact absurd c25 (by omega)
  | succ n ih =>
    intro t h1 h2
    refine g_iload_n (pc' := 18) dX11_unwanted_17 rfl rfl ?_
    refine g_aload_n (pc' := 19) dX11_unwanted_18 rfl rfl ?_
    refine g_getS (pc' := 22) (k := 11) (b := (13, 1)) dX11_unwanted_19 rfl rfl ck_12 (by decide) fl_X11_35 rfl hs rfl ?_
    refine g_invV (pc' := 25) (ls_size hok hc.c6.1) dX11_unwanted_22 rfl rfl ck_0 rfl ml_X11_103 im_Jx4a65c_size_8abf5 sl_Jx4a65c_size_8abf5 in_Jx4a65c co_Jx4a65c_size_8abf5 pd_Jx4a65c_size_8abf5 rfl (by omega) (by decide) ⟨by decide, by decide⟩ (Nat.le_of_ble_eq_true rfl) ?_
    rintro _ _ ⟨rfl, rfl⟩ -
    refine g_icmp_geN (tgt := 59) (pc' := 28) dX11_unwanted_25 rfl (by decide) (by omega) (by omega) (fun c25 => ?_) (fun c25 => ?_)
    · exact absurd c25 (by omega)
    ·
      refine g_aload_n (pc' := 29) dX11_unwanted_28 rfl rfl ?_
      refine g_aload_n (pc' := 30) dX11_unwanted_29 rfl rfl ?_
      refine g_getS (pc' := 33) (k := 11) (b := (13, 1)) dX11_unwanted_30 rfl rfl ck_12 (by decide) fl_X11_35 rfl hs rfl ?_
      refine g_iload_n (pc' := 34) dX11_unwanted_33 rfl rfl ?_
      refine g_invV (pc' := 37) (ls_get hok hc.c6.1 (j := t) (by omega) (by omega)) dX11_unwanted_34 rfl rfl ck_0 rfl ml_X11_324 im_Jx4a65c_get_915e3 sl_Jx4a65c_get_915e3 in_Jx4a65c co_Jx4a65c_get_915e3 pd_Jx4a65c_get_915e3 rfl (by omega) (by decide) ⟨by decide, by decide⟩ (Nat.le_of_ble_eq_true rfl) ?_
      rintro _ _ ⟨rfl, rfl⟩ -
      refine g_cast (pc' := 40) dX11_unwanted_37 rfl rfl ck_9 cl_X11_133 ?_
      refine g_iload_n (pc' := 41) dX11_unwanted_40 rfl rfl ?_
      refine g_invV (pc' := 44) (cx_isUnwanted hok hc hw (t := t) (by omega) hx hdx) dX11_unwanted_41 rfl rfl ck_12 rfl ml_X11_328 im_X11_isUnwanted sl_X11_isUnwanted in_X11 co_X11_isUnwanted pd_X11_isUnwanted rfl (by omega) (by decide) ⟨by decide, by decide⟩ (Nat.le_of_ble_eq_true rfl) ?_
      rintro _ _ ⟨rfl, rfl⟩ -
      refine g_ifB_eq (tgt := 53) (pc' := 47) dX11_unwanted_44 rfl (by decide) (fun c44 => ?_) (fun c44 => ?_)
      ·
        refine g_iincN (k := 1) (pc' := 56) dX11_unwanted_53 rfl rfl (by decide) rfl ?_
        try simp only [List.set]
        refine g_goto (tgt := 17) dX11_unwanted_56 (by decide) ?_
        have q := ih (t + 1) (by omega) (by omega)
        rw [orr_s] at q
        have e : cif (0 < whyF m t x) ((1 : Int32) <<< (nI t &&& 31)) 0 = (0 : Int32) := cif_f (fun z => c44 ((whyF_pos m t x).mp z))
        rw [e, Int32.or_zero] at q
        exact q
      ·
        refine g_iload_n (pc' := 48) dX11_unwanted_47 rfl rfl ?_
        refine g_iconst (v := 1) (pc' := 49) dX11_unwanted_48 rfl (by decide) ?_
        refine g_iload_n (pc' := 50) dX11_unwanted_49 rfl rfl ?_
        refine g_ishl (pc' := 51) dX11_unwanted_50 rfl ?_
        refine g_ior (pc' := 52) dX11_unwanted_51 rfl ?_
        refine g_istore_n (pc' := 53) dX11_unwanted_52 rfl (by decide) rfl ?_
        try simp only [List.set]
        refine g_iincN (k := 1) (pc' := 56) dX11_unwanted_53 rfl rfl (by decide) rfl ?_
        try simp only [List.set]
        refine g_goto (tgt := 17) dX11_unwanted_56 (by decide) ?_
        have q := ih (t + 1) (by omega) (by omega)
        rw [orr_s] at q
        have e : cif (0 < whyF m t x) ((1 : Int32) <<< (nI t &&& 31)) 0 = (1 : Int32) <<< (nI t &&& 31) := cif_t ((whyF_pos m t x).mpr c44)
        rw [e] at q
        exact q
set_option maxRecDepth 4000 in
theorem cx_unwanted {E : En} (hok : EOK E) {h : Hp} {m : St} (hc : Cp m h) (hw : Wf m) (hx : Wx m) (x : Int32) : Call E m_X11_unwanted 5 0 0 [vR TH, vI x] h (fun r h' => r = some (vI (sUnwanted m x).1) ∧ Cp (sUnwanted m x).2 h' ∧ mo h' = mo h) := by
  have hs := hc.s
  have hKb := hw.k.2
  have hTb := hw.t.2
  have hFb := hw.f.2
  have hRb := hw.r.2
  have hGb := hw.g.2
  have hAb := hw.a.2
  have hTlb := hw.tl.2
  have hNwb := hw.w.2
  refine Call.enter hok (by decide) (Nat.le_of_ble_eq_true rfl) ?_
  show G E m_X11_unwanted 5 0 0 _ h 0 [some (vR TH), some (vI x), none, none] [] h 0 0
  refine g_iload_n (pc' := 1) dX11_unwanted_0 rfl rfl ?_
  refine g_iconstN (n := 1) (pc' := 2) dX11_unwanted_1 rfl ?_
  refine g_sipushN (n := 700) (pc' := 5) dX11_unwanted_2 rfl (by decide) ?_
  refine g_invS (pc' := 8) (cx_within hok _ _ _) dX11_unwanted_5 rfl ml_X11_99 st_X11_within in_X11 co_X11_within pd_X11_within rfl (by omega) (by decide) ⟨by decide, by decide⟩ (Nat.le_of_ble_eq_true rfl) ?_
  rintro _ _ ⟨rfl, rfl⟩ -
  refine g_ifB_ne (tgt := 13) (pc' := 11) dX11_unwanted_8 rfl (by decide) (fun c8 => ?_) (fun c8 => ?_)
  ·
    refine g_iconst (v := 0) (pc' := 14) dX11_unwanted_13 rfl (by decide) ?_
    refine g_istore_n (pc' := 15) dX11_unwanted_14 rfl (by decide) rfl ?_
    try simp only [List.set]
    refine g_iconstN (n := 0) (pc' := 16) dX11_unwanted_15 rfl ?_
    refine g_istore_n (pc' := 17) dX11_unwanted_16 rfl (by decide) rfl ?_
    try simp only [List.set]
    have e : sUnwanted m x = (unwS m x, m) := cif_t c8
    exact lx_unwanted hok hc hw hx c8 (Nat.le_refl _) (by rw [e]; exact ⟨rfl, hc, rfl⟩) _ 0 (Nat.zero_le _) rfl
  ·
    refine g_iconst (v := -1) (pc' := 12) dX11_unwanted_11 rfl (by decide) ?_
    refine g_iret dX11_unwanted_12 rfl (by decide) (by decide) ?_
    have e : sUnwanted m x = (-1, m) := cif_f c8
    rw [e]
    exact ⟨rfl, hc, rfl⟩
set_option maxRecDepth 4000 in
theorem cx_why {E : En} (hok : EOK E) {h : Hp} {m : St} (hc : Cp m h) (hw : Wf m) (hx : Wx m) (t0 : Int32) (x : Int32) : Call E m_X11_why 5 0 0 [vR TH, vI t0, vI x] h (fun r h' => r = some (vI (sWhy m t0 x).1) ∧ Cp (sWhy m t0 x).2 h' ∧ mo h' = mo h) := by
  have hs := hc.s
  have hKb := hw.k.2
  have hTb := hw.t.2
  have hFb := hw.f.2
  have hRb := hw.r.2
  have hGb := hw.g.2
  have hAb := hw.a.2
  have hTlb := hw.tl.2
  have hNwb := hw.w.2
  refine Call.enter hok (by decide) (Nat.le_of_ble_eq_true rfl) ?_
  show G E m_X11_why 5 0 0 _ h 0 [some (vR TH), some (vI t0), some (vI x), none] [] h 0 0
  refine g_aload_n (pc' := 1) dX11_why_0 rfl rfl ?_
  refine g_iload_n (pc' := 2) dX11_why_1 rfl rfl ?_
  rcases Classical.em (∃ j : Nat, j < nT m ∧ t0 = nI j) with w2 | w2
  ·
    have k2 := w2
    obtain ⟨t, ht, rfl⟩ := k2
    refine g_invV (pc' := 5) (cx_toyAt hok hc hw ht) dX11_why_2 rfl rfl ck_12 rfl ml_X11_151 im_X11_toyAt sl_X11_toyAt in_X11 co_X11_toyAt pd_X11_toyAt rfl (by omega) (by decide) ⟨by decide, by decide⟩ (Nat.le_of_ble_eq_true rfl) ?_
    rintro _ _ ⟨rfl, rfl⟩ -
    refine g_astore_n (pc' := 6) dX11_why_5 rfl (by decide) rfl ?_
    try simp only [List.set]
    refine g_aload_n (pc' := 7) dX11_why_6 rfl rfl ?_
    refine g_ifnull (pc' := 10) dX11_why_7 rfl ?_
    refine g_iload_n (pc' := 11) dX11_why_10 rfl rfl ?_
    refine g_iconstN (n := 1) (pc' := 12) dX11_why_11 rfl ?_
    refine g_sipushN (n := 700) (pc' := 15) dX11_why_12 rfl (by decide) ?_
    refine g_invS (pc' := 18) (cx_within hok _ _ _) dX11_why_15 rfl ml_X11_99 st_X11_within in_X11 co_X11_within pd_X11_within rfl (by omega) (by decide) ⟨by decide, by decide⟩ (Nat.le_of_ble_eq_true rfl) ?_
    rintro _ _ ⟨rfl, rfl⟩ -
    refine g_ifB_ne (tgt := 23) (pc' := 21) dX11_why_18 rfl (by decide) (fun c18 => ?_) (fun c18 => ?_)
    ·
      refine g_aload_n (pc' := 24) dX11_why_23 rfl rfl ?_
      refine g_aload_n (pc' := 25) dX11_why_24 rfl rfl ?_
      refine g_iload_n (pc' := 26) dX11_why_25 rfl rfl ?_
      refine g_invV (pc' := 29) (cx_isUnwanted hok hc hw (t := t) (by omega) hx c18) dX11_why_26 rfl rfl ck_12 rfl ml_X11_328 im_X11_isUnwanted sl_X11_isUnwanted in_X11 co_X11_isUnwanted pd_X11_isUnwanted rfl (by omega) (by decide) ⟨by decide, by decide⟩ (Nat.le_of_ble_eq_true rfl) ?_
      rintro _ _ ⟨rfl, rfl⟩ -
      refine g_ifB_eq (tgt := 40) (pc' := 32) dX11_why_29 rfl (by decide) (fun c29 => ?_) (fun c29 => ?_)
      ·
        refine g_iconstN (n := 0) (pc' := 41) dX11_why_40 rfl ?_
        refine g_iret dX11_why_41 rfl (by decide) (by decide) ?_
        have e : sWhy m (nI t) x = (nI (whyF m t x), m) := by unfold sWhy; simp only [nI_clamp (show t < 2 ^ 31 by omega)]; exact cif_t ⟨w2, c18⟩
        rw [e]
        exact ⟨congrArg (fun z : Nat => some (vI (nI z))) (show 0 = whyF m t x from (cif_f c29).symm), hc, rfl⟩
      ·
        refine g_aload_n (pc' := 33) dX11_why_32 rfl rfl ?_
        refine g_aload_n (pc' := 34) dX11_why_33 rfl rfl ?_
        refine g_invV (pc' := 37) (cx_reasonUnwanted hok hc hw (t := t) (by omega) hx) dX11_why_34 rfl rfl ck_12 rfl ml_X11_332 im_X11_reasonUnwanted sl_X11_reasonUnwanted in_X11 co_X11_reasonUnwanted pd_X11_reasonUnwanted rfl (by omega) (by decide) ⟨by decide, by decide⟩ (Nat.le_of_ble_eq_true rfl) ?_
        rintro _ _ ⟨rfl, rfl⟩ -
        refine g_goto (tgt := 41) dX11_why_37 (by decide) ?_
        refine g_iret dX11_why_41 rfl (by decide) (by decide) ?_
        have e : sWhy m (nI t) x = (nI (whyF m t x), m) := by unfold sWhy; simp only [nI_clamp (show t < 2 ^ 31 by omega)]; exact cif_t ⟨w2, c18⟩
        rw [e]
        exact ⟨congrArg (fun z : Nat => some (vI (nI z))) (show whyR m t = whyF m t x from (cif_t c29).symm), hc, rfl⟩
    ·
      refine g_iconst (v := -1) (pc' := 22) dX11_why_21 rfl (by decide) ?_
      refine g_iret dX11_why_22 rfl (by decide) (by decide) ?_
      have e : sWhy m (nI t) x = (-1, m) := by unfold sWhy; simp only [nI_clamp (show t < 2 ^ 31 by omega)]; exact cif_f (fun z => c18 z.2)
      rw [e]
      exact ⟨rfl, hc, rfl⟩
  ·
    refine g_invV (pc' := 5) (cx_toyAtN hok hc hw w2) dX11_why_2 rfl rfl ck_12 rfl ml_X11_151 im_X11_toyAt sl_X11_toyAt in_X11 co_X11_toyAt pd_X11_toyAt rfl (by omega) (by decide) ⟨by decide, by decide⟩ (Nat.le_of_ble_eq_true rfl) ?_
    rintro _ _ ⟨rfl, rfl⟩ -
    refine g_astore_n (pc' := 6) dX11_why_5 rfl (by decide) rfl ?_
    try simp only [List.set]
    refine g_aload_n (pc' := 7) dX11_why_6 rfl rfl ?_
    refine g_ifnullN (tgt := 21) dX11_why_7 (by decide) ?_
    refine g_iconst (v := -1) (pc' := 22) dX11_why_21 rfl (by decide) ?_
    refine g_iret dX11_why_22 rfl (by decide) (by decide) ?_
    have e : sWhy m t0 x = (-1, m) := cif_f (fun z => w2 z.1)
    rw [e]
    exact ⟨rfl, hc, rfl⟩
set_option maxRecDepth 4000 in
theorem lx_washedAhead {E : En} (hok : EOK E) {h h0 : Hp} {m : St} (hc : Cp m h) (hw : Wf m) {t : Nat} (ht : t < nT m) {d : Nat} (hd : 4 ≤ d) {Q : Option V → Hp → Prop} (hQ : Q (some (vI (nI (ahd m t)))) h) : ∀ n o : Nat, o ≤ nT m → nT m - o = n → G E m_X11_washedAhead d 0 0 Q h0 14 [some (vR TH), some (vR (3, t)), some (vI (nI (wfr m (kd m t)))), some (vI (nI (cnt (fun o => ¬ o = t ∧ (m 118 o = 0 ∧ ¬ m 124 o = 0) ∧ (wfr m (kd m t) < wfr m (kd m o) ∨ wfr m (kd m o) = wfr m (kd m t) ∧ o < t)) o))), some (vI (nI o)), none, none] [] (h) 0 0 := by
  have hs := hc.s
  have hKb := hw.k.2
  have hTb := hw.t.2
  have hFb := hw.f.2
  have hRb := hw.r.2
  have hGb := hw.g.2
  have hAb := hw.a.2
  have hTlb := hw.tl.2
  have hNwb := hw.w.2
  have hwo : ∀ k, wfr m k ≤ nF m := fun k => cnt_le _ _
  have hkt := (hw.kd ht).2
  have hw1 := hwo (kd m t)
  intro n
  induction n with
  | zero =>
    intro o h1 h2
    refine g_iload (pc' := 16) dX11_washedAhead_14 rfl rfl ?_
    refine g_aload_n (pc' := 17) dX11_washedAhead_16 rfl rfl ?_
    refine g_getS (pc' := 20) (k := 11) (b := (13, 1)) dX11_washedAhead_17 rfl rfl ck_12 (by decide) fl_X11_35 rfl hs rfl ?_
    refine g_invV (pc' := 23) (ls_size hok hc.c6.1) dX11_washedAhead_20 rfl rfl ck_0 rfl ml_X11_103 im_Jx4a65c_size_8abf5 sl_Jx4a65c_size_8abf5 in_Jx4a65c co_Jx4a65c_size_8abf5 pd_Jx4a65c_size_8abf5 rfl (by omega) (by decide) ⟨by decide, by decide⟩ (Nat.le_of_ble_eq_true rfl) ?_
    rintro _ _ ⟨rfl, rfl⟩ -
    refine g_icmp_geN (tgt := 90) (pc' := 26) dX11_washedAhead_23 rfl (by decide) (by omega) (by omega) (fun c23 => ?_) (fun c23 => ?_)
    ·
      refine g_iload_n (pc' := 91) dX11_washedAhead_90 rfl rfl ?_
      refine g_iret dX11_washedAhead_91 rfl (by decide) (by decide) ?_
      have e : o = nT m := by omega
      subst e
      exact hQ
    · exact absurd c23 (by omega)
  | succ n ih =>
    intro o h1 h2
    refine g_iload (pc' := 16) dX11_washedAhead_14 rfl rfl ?_
    refine g_aload_n (pc' := 17) dX11_washedAhead_16 rfl rfl ?_
    refine g_getS (pc' := 20) (k := 11) (b := (13, 1)) dX11_washedAhead_17 rfl rfl ck_12 (by decide) fl_X11_35 rfl hs rfl ?_
    refine g_invV (pc' := 23) (ls_size hok hc.c6.1) dX11_washedAhead_20 rfl rfl ck_0 rfl ml_X11_103 im_Jx4a65c_size_8abf5 sl_Jx4a65c_size_8abf5 in_Jx4a65c co_Jx4a65c_size_8abf5 pd_Jx4a65c_size_8abf5 rfl (by omega) (by decide) ⟨by decide, by decide⟩ (Nat.le_of_ble_eq_true rfl) ?_
    rintro _ _ ⟨rfl, rfl⟩ -
    refine g_icmp_geN (tgt := 90) (pc' := 26) dX11_washedAhead_23 rfl (by decide) (by omega) (by omega) (fun c23 => ?_) (fun c23 => ?_)
    · exact absurd c23 (by omega)
    ·
      refine g_aload_n (pc' := 27) dX11_washedAhead_26 rfl rfl ?_
      refine g_getS (pc' := 30) (k := 11) (b := (13, 1)) dX11_washedAhead_27 rfl rfl ck_12 (by decide) fl_X11_35 rfl hs rfl ?_
      refine g_iload (pc' := 32) dX11_washedAhead_30 rfl rfl ?_
      refine g_invV (pc' := 35) (ls_get hok hc.c6.1 (j := o) (by omega) (by omega)) dX11_washedAhead_32 rfl rfl ck_0 rfl ml_X11_324 im_Jx4a65c_get_915e3 sl_Jx4a65c_get_915e3 in_Jx4a65c co_Jx4a65c_get_915e3 pd_Jx4a65c_get_915e3 rfl (by omega) (by decide) ⟨by decide, by decide⟩ (Nat.le_of_ble_eq_true rfl) ?_
      rintro _ _ ⟨rfl, rfl⟩ -
      refine g_cast (pc' := 38) dX11_washedAhead_35 rfl rfl ck_9 cl_X11_133 ?_
      refine g_astore (pc' := 40) dX11_washedAhead_38 rfl (by decide) rfl ?_
      try simp only [List.set]
      refine g_aload_n (pc' := 41) dX11_washedAhead_40 rfl rfl ?_
      refine g_aload (pc' := 43) dX11_washedAhead_41 rfl rfl ?_
      refine g_invV (pc' := 46) (cx_isToWash hok hc hw (t := o) (by omega)) dX11_washedAhead_43 rfl rfl ck_12 rfl ml_X11_317 im_X11_isToWash sl_X11_isToWash in_X11 co_X11_isToWash pd_X11_isToWash rfl (by omega) (by decide) ⟨by decide, by decide⟩ (Nat.le_of_ble_eq_true rfl) ?_
      rintro _ _ ⟨rfl, rfl⟩ -
      refine g_ifB_eq (tgt := 84) (pc' := 49) dX11_washedAhead_46 rfl (by decide) (fun c46 => ?_) (fun c46 => ?_)
      ·
        refine g_iincN (k := 1) (pc' := 87) dX11_washedAhead_84 rfl rfl (by decide) rfl ?_
        try simp only [List.set]
        refine g_goto (tgt := 14) dX11_washedAhead_87 (by decide) ?_
        refine G.drop 5 ?_
        simp only [List.set]
        have q := ih (o + 1) (by omega) (by omega)
        rw [cnt_f (fun z => c46 z.2.1), Nat.add_zero] at q
        exact q
      ·
        have hko := (hw.kd (t := o) (by omega)).2
        have hw2 := hwo (kd m o)
        refine g_aload_n (pc' := 50) dX11_washedAhead_49 rfl rfl ?_
        refine g_aload (pc' := 52) dX11_washedAhead_50 rfl rfl ?_
        refine g_getR (pc' := 55) (k := 1) (r := some (2, kd m o)) dX11_washedAhead_52 rfl rfl ck_9 (by decide) fl_X11_203 rfl ((hc.c6.2.1 _ (by omega)).1) ?_
        refine g_invV (pc' := 58) (cx_waitingFor hok hc hw (k := kd m o) (by omega)) dX11_washedAhead_55 rfl rfl ck_12 rfl ml_X11_347 im_X11_waitingFor sl_X11_waitingFor in_X11 co_X11_waitingFor pd_X11_waitingFor rfl (by omega) (by decide) ⟨by decide, by decide⟩ (Nat.le_of_ble_eq_true rfl) ?_
        rintro _ _ ⟨rfl, rfl⟩ -
        refine g_istore (pc' := 60) dX11_washedAhead_58 rfl (by decide) rfl ?_
        try simp only [List.set]
        refine g_iload (pc' := 62) dX11_washedAhead_60 rfl rfl ?_
        refine g_iload_n (pc' := 63) dX11_washedAhead_62 rfl rfl ?_
        refine g_icmp_gtN (tgt := 81) (pc' := 66) dX11_washedAhead_63 rfl (by decide) (by omega) (by omega) (fun c63 => ?_) (fun c63 => ?_)
        ·
          refine g_iincN (k := 1) (pc' := 84) dX11_washedAhead_81 rfl rfl (by decide) rfl ?_
          try simp only [List.set]
          refine g_iincN (k := 1) (pc' := 87) dX11_washedAhead_84 rfl rfl (by decide) rfl ?_
          try simp only [List.set]
          refine g_goto (tgt := 14) dX11_washedAhead_87 (by decide) ?_
          refine G.drop 5 ?_
          refine G.drop 6 ?_
          simp only [List.set]
          have q := ih (o + 1) (by omega) (by omega)
          rw [cnt_t (p := (fun o => ¬ o = t ∧ (m 118 o = 0 ∧ ¬ m 124 o = 0) ∧ (wfr m (kd m t) < wfr m (kd m o) ∨ wfr m (kd m o) = wfr m (kd m t) ∧ o < t))) ⟨fun z => by subst z; omega, c46, Or.inl c63⟩] at q
          exact q
        ·
          refine g_iload (pc' := 68) dX11_washedAhead_66 rfl rfl ?_
          refine g_iload_n (pc' := 69) dX11_washedAhead_68 rfl rfl ?_
          refine g_icmp_neN (tgt := 84) (pc' := 72) dX11_washedAhead_69 rfl (by decide) (by omega) (by omega) (fun c69 => ?_) (fun c69 => ?_)
          ·
            refine g_iincN (k := 1) (pc' := 87) dX11_washedAhead_84 rfl rfl (by decide) rfl ?_
            try simp only [List.set]
            refine g_goto (tgt := 14) dX11_washedAhead_87 (by decide) ?_
            refine G.drop 5 ?_
            refine G.drop 6 ?_
            simp only [List.set]
            have q := ih (o + 1) (by omega) (by omega)
            rw [cnt_f (p := (fun o => ¬ o = t ∧ (m 118 o = 0 ∧ ¬ m 124 o = 0) ∧ (wfr m (kd m t) < wfr m (kd m o) ∨ wfr m (kd m o) = wfr m (kd m t) ∧ o < t))) (by rintro ⟨-, -, z | z⟩ <;> omega), Nat.add_zero] at q
            exact q
          ·
            refine g_iload (pc' := 74) dX11_washedAhead_72 rfl rfl ?_
            refine g_aload_n (pc' := 75) dX11_washedAhead_74 rfl rfl ?_
            refine g_getIv (v := nI (t)) (pc' := 78) (k := 0) dX11_washedAhead_75 rfl rfl ck_9 (by decide) fl_X11_138 rfl (hc.t0 (t := t) (by omega)) ?_
            refine g_icmp_geN (tgt := 84) (pc' := 81) dX11_washedAhead_78 rfl (by decide) (by omega) (by omega) (fun c78 => ?_) (fun c78 => ?_)
            ·
              refine g_iincN (k := 1) (pc' := 87) dX11_washedAhead_84 rfl rfl (by decide) rfl ?_
              try simp only [List.set]
              refine g_goto (tgt := 14) dX11_washedAhead_87 (by decide) ?_
              refine G.drop 5 ?_
              refine G.drop 6 ?_
              simp only [List.set]
              have q := ih (o + 1) (by omega) (by omega)
              rw [cnt_f (p := (fun o => ¬ o = t ∧ (m 118 o = 0 ∧ ¬ m 124 o = 0) ∧ (wfr m (kd m t) < wfr m (kd m o) ∨ wfr m (kd m o) = wfr m (kd m t) ∧ o < t))) (by rintro ⟨-, -, z | z⟩ <;> omega), Nat.add_zero] at q
              exact q
            ·
              refine g_iincN (k := 1) (pc' := 84) dX11_washedAhead_81 rfl rfl (by decide) rfl ?_
              try simp only [List.set]
              refine g_iincN (k := 1) (pc' := 87) dX11_washedAhead_84 rfl rfl (by decide) rfl ?_
              try simp only [List.set]
              refine g_goto (tgt := 14) dX11_washedAhead_87 (by decide) ?_
              refine G.drop 5 ?_
              refine G.drop 6 ?_
              simp only [List.set]
              have q := ih (o + 1) (by omega) (by omega)
              rw [cnt_t (p := (fun o => ¬ o = t ∧ (m 118 o = 0 ∧ ¬ m 124 o = 0) ∧ (wfr m (kd m t) < wfr m (kd m o) ∨ wfr m (kd m o) = wfr m (kd m t) ∧ o < t))) ⟨by omega, c46, Or.inr ⟨c69, by omega⟩⟩] at q
              exact q
set_option maxRecDepth 4000 in
theorem cx_washedAhead {E : En} (hok : EOK E) {h : Hp} {m : St} (hc : Cp m h) (hw : Wf m) {t : Nat} (ht : t < nT m) : Call E m_X11_washedAhead 4 0 0 [vR TH, vR (3, t)] h (fun r0 h' => r0 = some (vI (nI (ahd m t))) ∧ h = h') := by
  have hs := hc.s
  have hKb := hw.k.2
  have hTb := hw.t.2
  have hFb := hw.f.2
  have hRb := hw.r.2
  have hGb := hw.g.2
  have hAb := hw.a.2
  have hTlb := hw.tl.2
  have hNwb := hw.w.2
  have hkd := (hw.kd ht).2
  refine Call.enter hok (by decide) (Nat.le_of_ble_eq_true rfl) ?_
  show G E m_X11_washedAhead 4 0 0 _ h 0 [some (vR TH), some (vR (3, t)), none, none, none, none, none] [] h 0 0
  refine g_aload_n (pc' := 1) dX11_washedAhead_0 rfl rfl ?_
  refine g_aload_n (pc' := 2) dX11_washedAhead_1 rfl rfl ?_
  refine g_getR (pc' := 5) (k := 1) (r := some (2, kd m t)) dX11_washedAhead_2 rfl rfl ck_9 (by decide) fl_X11_203 rfl ((hc.c6.2.1 _ (by omega)).1) ?_
  refine g_invV (pc' := 8) (cx_waitingFor hok hc hw (k := kd m t) (by omega)) dX11_washedAhead_5 rfl rfl ck_12 rfl ml_X11_347 im_X11_waitingFor sl_X11_waitingFor in_X11 co_X11_waitingFor pd_X11_waitingFor rfl (by omega) (by decide) ⟨by decide, by decide⟩ (Nat.le_of_ble_eq_true rfl) ?_
  rintro _ _ ⟨rfl, rfl⟩ -
  refine g_istore_n (pc' := 9) dX11_washedAhead_8 rfl (by decide) rfl ?_
  try simp only [List.set]
  refine g_iconstN (n := 0) (pc' := 10) dX11_washedAhead_9 rfl ?_
  refine g_istore_n (pc' := 11) dX11_washedAhead_10 rfl (by decide) rfl ?_
  try simp only [List.set]
  refine g_iconstN (n := 0) (pc' := 12) dX11_washedAhead_11 rfl ?_
  refine g_istore (pc' := 14) dX11_washedAhead_12 rfl (by decide) rfl ?_
  try simp only [List.set]
  exact lx_washedAhead hok hc hw ht (Nat.le_refl _) ⟨rfl, rfl⟩ _ 0 (Nat.zero_le _) rfl
set_option maxRecDepth 4000 in
theorem cx_rota {E : En} (hok : EOK E) {h : Hp} {m : St} (hc : Cp m h) (hw : Wf m) (hx : Wx m) (c0 : Int32) (t0 : Int32) : Call E m_X11_rota 5 0 0 [vR TH, vI c0, vI t0] h (fun r h' => r = some (vI (sRota m c0 t0).1) ∧ Cp (sRota m c0 t0).2 h' ∧ mo h' = mo h) := by
  have hs := hc.s
  have hKb := hw.k.2
  have hTb := hw.t.2
  have hFb := hw.f.2
  have hRb := hw.r.2
  have hGb := hw.g.2
  have hAb := hw.a.2
  have hTlb := hw.tl.2
  have hNwb := hw.w.2
  refine Call.enter hok (by decide) (Nat.le_of_ble_eq_true rfl) ?_
  show G E m_X11_rota 5 0 0 _ h 0 [some (vR TH), some (vI c0), some (vI t0), none] [] h 0 0
  refine g_aload_n (pc' := 1) dX11_rota_0 rfl rfl ?_
  refine g_iload_n (pc' := 2) dX11_rota_1 rfl rfl ?_
  rcases Classical.em (∃ j : Nat, j < nT m ∧ t0 = nI j) with w2 | w2
  ·
    have k2 := w2
    obtain ⟨t, ht, rfl⟩ := k2
    refine g_invV (pc' := 5) (cx_toyAt hok hc hw ht) dX11_rota_2 rfl rfl ck_12 rfl ml_X11_151 im_X11_toyAt sl_X11_toyAt in_X11 co_X11_toyAt pd_X11_toyAt rfl (by omega) (by decide) ⟨by decide, by decide⟩ (Nat.le_of_ble_eq_true rfl) ?_
    rintro _ _ ⟨rfl, rfl⟩ -
    refine g_astore_n (pc' := 6) dX11_rota_5 rfl (by decide) rfl ?_
    try simp only [List.set]
    refine g_aload_n (pc' := 7) dX11_rota_6 rfl rfl ?_
    refine g_ifnull (pc' := 10) dX11_rota_7 rfl ?_
    refine g_iload_n (pc' := 11) dX11_rota_10 rfl rfl ?_
    refine g_iconstN (n := 1) (pc' := 12) dX11_rota_11 rfl ?_
    refine g_bipushN (n := 9) (pc' := 14) dX11_rota_12 rfl (by decide) ?_
    refine g_invS (pc' := 17) (cx_within hok _ _ _) dX11_rota_14 rfl ml_X11_99 st_X11_within in_X11 co_X11_within pd_X11_within rfl (by omega) (by decide) ⟨by decide, by decide⟩ (Nat.le_of_ble_eq_true rfl) ?_
    rintro _ _ ⟨rfl, rfl⟩ -
    refine g_ifB_eq (tgt := 28) (pc' := 20) dX11_rota_17 rfl (by decide) (fun c17 => ?_) (fun c17 => ?_)
    ·
      refine g_iconst (v := -1) (pc' := 29) dX11_rota_28 rfl (by decide) ?_
      refine g_iret dX11_rota_29 rfl (by decide) (by decide) ?_
      have e : sRota m c0 (nI t) = (-1, m) := cif_f (fun z => c17 z.1)
      rw [e]
      exact ⟨rfl, hc, rfl⟩
    ·
      obtain ⟨c, hcc, rfl⟩ := one_nine c17
      refine g_aload_n (pc' := 21) dX11_rota_20 rfl rfl ?_
      refine g_aload_n (pc' := 22) dX11_rota_21 rfl rfl ?_
      refine g_invV (pc' := 25) (cx_isToWash hok hc hw (t := t) (by omega)) dX11_rota_22 rfl rfl ck_12 rfl ml_X11_317 im_X11_isToWash sl_X11_isToWash in_X11 co_X11_isToWash pd_X11_isToWash rfl (by omega) (by decide) ⟨by decide, by decide⟩ (Nat.le_of_ble_eq_true rfl) ?_
      rintro _ _ ⟨rfl, rfl⟩ -
      refine g_ifB_ne (tgt := 30) (pc' := 28) dX11_rota_25 rfl (by decide) (fun c25 => ?_) (fun c25 => ?_)
      ·
        refine g_aload_n (pc' := 31) dX11_rota_30 rfl rfl ?_
        refine g_getIv (v := nI (nW m)) (pc' := 34) (k := 0) dX11_rota_31 rfl rfl ck_12 (by decide) fl_X11_95 rfl (hc.c1.1.trans hw.w.1) ?_
        refine g_aload_n (pc' := 35) dX11_rota_34 rfl rfl ?_
        refine g_aload_n (pc' := 36) dX11_rota_35 rfl rfl ?_
        have hah : ahd m t ≤ nT m := cnt_le _ _
        refine g_invV (pc' := 39) (cx_washedAhead hok hc hw (t := t) (by omega)) dX11_rota_36 rfl rfl ck_12 rfl ml_X11_320 im_X11_washedAhead sl_X11_washedAhead in_X11 co_X11_washedAhead pd_X11_washedAhead rfl (by omega) (by decide) ⟨by decide, by decide⟩ (Nat.le_of_ble_eq_true rfl) ?_
        rintro _ _ ⟨rfl, rfl⟩ -
        refine g_iload_n (pc' := 40) dX11_rota_39 rfl rfl ?_
        refine g_idivN (pc' := 41) dX11_rota_40 rfl (by omega) (by omega) (by omega) ?_
        refine g_iaddN (pc' := 42) dX11_rota_41 rfl ?_
        refine g_iret dX11_rota_42 rfl (by decide) (by decide) ?_
        have e : sRota m (nI c) (nI t) = (nI (nW m + ahd m t / c), m) := by unfold sRota; simp only [nI_clamp (show t < 2 ^ 31 by omega), nI_clamp (show c < 2 ^ 31 by omega)]; exact cif_t ⟨c17, w2, c25⟩
        rw [e]
        exact ⟨rfl, hc, rfl⟩
      ·
        refine g_iconst (v := -1) (pc' := 29) dX11_rota_28 rfl (by decide) ?_
        refine g_iret dX11_rota_29 rfl (by decide) (by decide) ?_
        have e : sRota m (nI c) (nI t) = (-1, m) := by unfold sRota; simp only [nI_clamp (show t < 2 ^ 31 by omega), nI_clamp (show c < 2 ^ 31 by omega)]; exact cif_f (fun z => c25 z.2.2)
        rw [e]
        exact ⟨rfl, hc, rfl⟩
  ·
    refine g_invV (pc' := 5) (cx_toyAtN hok hc hw w2) dX11_rota_2 rfl rfl ck_12 rfl ml_X11_151 im_X11_toyAt sl_X11_toyAt in_X11 co_X11_toyAt pd_X11_toyAt rfl (by omega) (by decide) ⟨by decide, by decide⟩ (Nat.le_of_ble_eq_true rfl) ?_
    rintro _ _ ⟨rfl, rfl⟩ -
    refine g_astore_n (pc' := 6) dX11_rota_5 rfl (by decide) rfl ?_
    try simp only [List.set]
    refine g_aload_n (pc' := 7) dX11_rota_6 rfl rfl ?_
    refine g_ifnullN (tgt := 28) dX11_rota_7 (by decide) ?_
    refine g_iconst (v := -1) (pc' := 29) dX11_rota_28 rfl (by decide) ?_
    refine g_iret dX11_rota_29 rfl (by decide) (by decide) ?_
    have e : sRota m c0 t0 = (-1, m) := cif_f (fun z => w2 z.2.1)
    rw [e]
    exact ⟨rfl, hc, rfl⟩
