set_option maxRecDepth 4000 in
theorem cx_isForWhole {E : En} (hok : EOK E) {h : Hp} {m : St} (hc : Cp m h) (hw : Wf m) {k : Nat} (hk : k < nK m) {t : Nat} (ht : t < nT m) : Call E m_X11_isForWhole 4 0 0 [vR TH, vR (3, t), vR (2, k)] h (fun r0 h' => r0 = some (vI (bi (sp m k t))) ∧ h = h') := by
  have hs := hc.s
  have hKb := hw.k.2
  have hTb := hw.t.2
  have hFb := hw.f.2
  have hRb := hw.r.2
  have hGb := hw.g.2
  have hAb := hw.a.2
  have hTlb := hw.tl.2
  have hNwb := hw.w.2
  refine Call.enter hok (by decide) (Nat.le_of_ble_eq_true rfl) ?_
  show G E m_X11_isForWhole 4 0 0 _ h 0 [some (vR TH), some (vR (3, t)), some (vR (2, k))] [] h 0 0
  refine g_aload_n (pc' := 1) dX11_isForWhole_0 rfl rfl ?_
  refine g_getR (pc' := 4) (k := 1) (r := some (2, kd m t)) dX11_isForWhole_1 rfl rfl ck_9 (by decide) fl_X11_203 rfl ((hc.c6.2.1 _ (by omega)).1) ?_
  refine g_aload_n (pc' := 5) dX11_isForWhole_4 rfl rfl ?_
  refine g_acmp_ne (tgt := 27) (pc' := 8) dX11_isForWhole_5 rfl (by decide) (Nat.le_of_ble_eq_true rfl) (Nat.le_of_ble_eq_true rfl) (fun c5 => ?_) (fun c5 => ?_)
  ·
    refine g_iconstN (n := 0) (pc' := 28) dX11_isForWhole_27 rfl ?_
    refine g_zret dX11_isForWhole_28 rfl (by rfl) (by decide) (by decide) ?_
    exact ⟨congrArg (fun z : Int32 => some (vI z)) (bi_f (P := sp m k t) (fun z => c5 (by rw [z.1]))).symm, rfl⟩
  ·
    refine g_aload_n (pc' := 9) dX11_isForWhole_8 rfl rfl ?_
    refine g_getIv (v := m 118 (t)) (pc' := 12) (k := 7) dX11_isForWhole_9 rfl rfl ck_9 (by decide) fl_X11_264 rfl (hc.t7 (t := t) (by omega)) ?_
    refine g_if_ne (tgt := 27) (pc' := 15) dX11_isForWhole_12 rfl (by decide) (fun c12 => ?_) (fun c12 => ?_)
    ·
      refine g_iconstN (n := 0) (pc' := 28) dX11_isForWhole_27 rfl ?_
      refine g_zret dX11_isForWhole_28 rfl (by rfl) (by decide) (by decide) ?_
      exact ⟨congrArg (fun z : Int32 => some (vI z)) (bi_f (P := sp m k t) (fun z => c12 z.2.1)).symm, rfl⟩
    ·
      refine g_aload_n (pc' := 16) dX11_isForWhole_15 rfl rfl ?_
      refine g_aload_n (pc' := 17) dX11_isForWhole_16 rfl rfl ?_
      refine g_invV (pc' := 20) (cx_isRecalled hok hc hw (t := t) (by omega)) dX11_isForWhole_17 rfl rfl ck_12 rfl ml_X11_280 im_X11_isRecalled sl_X11_isRecalled in_X11 co_X11_isRecalled pd_X11_isRecalled rfl (by omega) (by decide) ⟨by decide, by decide⟩ (Nat.le_of_ble_eq_true rfl) ?_
      rintro _ _ ⟨rfl, rfl⟩ -
      refine g_ifB_ne (tgt := 27) (pc' := 23) dX11_isForWhole_20 rfl (by decide) (fun c20 => ?_) (fun c20 => ?_)
      ·
        refine g_iconstN (n := 0) (pc' := 28) dX11_isForWhole_27 rfl ?_
        refine g_zret dX11_isForWhole_28 rfl (by rfl) (by decide) (by decide) ?_
        exact ⟨congrArg (fun z : Int32 => some (vI z)) (bi_f (P := sp m k t) (fun z => z.2.2 c20)).symm, rfl⟩
      ·
        refine g_iconstN (n := 1) (pc' := 24) dX11_isForWhole_23 rfl ?_
        refine g_goto (tgt := 28) dX11_isForWhole_24 (by decide) ?_
        refine g_zret dX11_isForWhole_28 rfl (by rfl) (by decide) (by decide) ?_
        exact ⟨congrArg (fun z : Int32 => some (vI z)) (bi_t (P := sp m k t) (⟨congrArg Prod.snd c5, c12, c20⟩)).symm, rfl⟩
set_option maxRecDepth 4000 in
theorem lx_pieces4 {E : En} (hok : EOK E) {h h0 : Hp} {m : St} (hc : Cp m h) (hw : Wf m) (hx : Wx m) {k : Nat} (hk : k < nK m) {s : Nat} (hs6 : s < 6) {d : Nat} (hd : 5 ≤ d) {Q : Option V → Hp → Prop} (hQ : Q (some (vI (nI (whS m k s)))) h) : ∀ n t : Nat, t ≤ nT m → nT m - t = n → G E m_X11_piecesForWhole d 0 0 Q h0 5 [some (vR TH), some (vR (2, k)), some (vI (nI s)), some (vI (nI (smN (whf m k s) t))), some (vI (nI t))] [] (h) 0 0 := by
  have hs := hc.s
  have hKb := hw.k.2
  have hTb := hw.t.2
  have hFb := hw.f.2
  have hRb := hw.r.2
  have hGb := hw.g.2
  have hAb := hw.a.2
  have hTlb := hw.tl.2
  have hNwb := hw.w.2
  intro n
  induction n with
  | zero =>
    intro t h1 h2
    refine g_iload (pc' := 7) dX11_piecesForWhole_5 rfl rfl ?_
    refine g_aload_n (pc' := 8) dX11_piecesForWhole_7 rfl rfl ?_
    refine g_getS (pc' := 11) (k := 11) (b := (13, 1)) dX11_piecesForWhole_8 rfl rfl ck_12 (by decide) fl_X11_35 rfl hs rfl ?_
    refine g_invV (pc' := 14) (ls_size hok hc.c6.1) dX11_piecesForWhole_11 rfl rfl ck_0 rfl ml_X11_103 im_Jx4a65c_size_8abf5 sl_Jx4a65c_size_8abf5 in_Jx4a65c co_Jx4a65c_size_8abf5 pd_Jx4a65c_size_8abf5 rfl (by omega) (by decide) ⟨by decide, by decide⟩ (Nat.le_of_ble_eq_true rfl) ?_
    rintro _ _ ⟨rfl, rfl⟩ -
    refine g_icmp_geN (tgt := 63) (pc' := 17) dX11_piecesForWhole_14 rfl (by decide) (by omega) (by omega) (fun c14 => ?_) (fun c14 => ?_)
    ·
      refine g_iload_n (pc' := 64) dX11_piecesForWhole_63 rfl rfl ?_
      refine g_iret dX11_piecesForWhole_64 rfl (by decide) (by decide) ?_
      have e : t = nT m := by omega
      subst e
      exact hQ
    · exact absurd c14 (by omega)
  | succ n ih =>
    intro t h1 h2
    refine g_iload (pc' := 7) dX11_piecesForWhole_5 rfl rfl ?_
    refine g_aload_n (pc' := 8) dX11_piecesForWhole_7 rfl rfl ?_
    refine g_getS (pc' := 11) (k := 11) (b := (13, 1)) dX11_piecesForWhole_8 rfl rfl ck_12 (by decide) fl_X11_35 rfl hs rfl ?_
    refine g_invV (pc' := 14) (ls_size hok hc.c6.1) dX11_piecesForWhole_11 rfl rfl ck_0 rfl ml_X11_103 im_Jx4a65c_size_8abf5 sl_Jx4a65c_size_8abf5 in_Jx4a65c co_Jx4a65c_size_8abf5 pd_Jx4a65c_size_8abf5 rfl (by omega) (by decide) ⟨by decide, by decide⟩ (Nat.le_of_ble_eq_true rfl) ?_
    rintro _ _ ⟨rfl, rfl⟩ -
    refine g_icmp_geN (tgt := 63) (pc' := 17) dX11_piecesForWhole_14 rfl (by decide) (by omega) (by omega) (fun c14 => ?_) (fun c14 => ?_)
    · exact absurd c14 (by omega)
    ·
      refine g_aload_n (pc' := 18) dX11_piecesForWhole_17 rfl rfl ?_
      refine g_aload_n (pc' := 19) dX11_piecesForWhole_18 rfl rfl ?_
      refine g_getS (pc' := 22) (k := 11) (b := (13, 1)) dX11_piecesForWhole_19 rfl rfl ck_12 (by decide) fl_X11_35 rfl hs rfl ?_
      refine g_iload (pc' := 24) dX11_piecesForWhole_22 rfl rfl ?_
      refine g_invV (pc' := 27) (ls_get hok hc.c6.1 (j := t) (by omega) (by omega)) dX11_piecesForWhole_24 rfl rfl ck_0 rfl ml_X11_324 im_Jx4a65c_get_915e3 sl_Jx4a65c_get_915e3 in_Jx4a65c co_Jx4a65c_get_915e3 pd_Jx4a65c_get_915e3 rfl (by omega) (by decide) ⟨by decide, by decide⟩ (Nat.le_of_ble_eq_true rfl) ?_
      rintro _ _ ⟨rfl, rfl⟩ -
      refine g_cast (pc' := 30) dX11_piecesForWhole_27 rfl rfl ck_9 cl_X11_133 ?_
      refine g_aload_n (pc' := 31) dX11_piecesForWhole_30 rfl rfl ?_
      refine g_invV (pc' := 34) (cx_isForWhole hok hc hw hk (t := t) (by omega)) dX11_piecesForWhole_31 rfl rfl ck_12 rfl ml_X11_505 im_X11_isForWhole sl_X11_isForWhole in_X11 co_X11_isForWhole pd_X11_isForWhole rfl (by omega) (by decide) ⟨by decide, by decide⟩ (Nat.le_of_ble_eq_true rfl) ?_
      rintro _ _ ⟨rfl, rfl⟩ -
      refine g_ifB_eq (tgt := 57) (pc' := 37) dX11_piecesForWhole_34 rfl (by decide) (fun c34 => ?_) (fun c34 => ?_)
      ·
        refine g_iincN (k := 1) (pc' := 60) dX11_piecesForWhole_57 rfl rfl (by decide) rfl ?_
        try simp only [List.set]
        refine g_goto (tgt := 5) dX11_piecesForWhole_60 (by decide) ?_
        have q := ih (t + 1) (by omega) (by omega)
        rw [smN_s] at q
        rw [show whf m k s t = 0 from cif_f c34, Nat.add_zero] at q
        exact q
      ·
        refine g_iload_n (pc' := 38) dX11_piecesForWhole_37 rfl rfl ?_
        refine g_aload_n (pc' := 39) dX11_piecesForWhole_38 rfl rfl ?_
        refine g_getS (pc' := 42) (k := 11) (b := (13, 1)) dX11_piecesForWhole_39 rfl rfl ck_12 (by decide) fl_X11_35 rfl hs rfl ?_
        refine g_iload (pc' := 44) dX11_piecesForWhole_42 rfl rfl ?_
        refine g_invV (pc' := 47) (ls_get hok hc.c6.1 (j := t) (by omega) (by omega)) dX11_piecesForWhole_44 rfl rfl ck_0 rfl ml_X11_324 im_Jx4a65c_get_915e3 sl_Jx4a65c_get_915e3 in_Jx4a65c co_Jx4a65c_get_915e3 pd_Jx4a65c_get_915e3 rfl (by omega) (by decide) ⟨by decide, by decide⟩ (Nat.le_of_ble_eq_true rfl) ?_
        rintro _ _ ⟨rfl, rfl⟩ -
        refine g_cast (pc' := 50) dX11_piecesForWhole_47 rfl rfl ck_9 cl_X11_133 ?_
        refine g_getS (pc' := 53) (k := 3) (b := (26, t)) dX11_piecesForWhole_50 rfl rfl ck_9 (by decide) fl_X11_287 rfl hs rfl ?_
        refine g_iload_n (pc' := 54) dX11_piecesForWhole_53 rfl rfl ?_
        refine g_ialdN (pc' := 55) (v := nI (hsN m t s)) dX11_piecesForWhole_54 rfl rfl (by decide) (by omega) (((hc.c6.2.1 t (by omega)).2.2 s hs6).trans (hs_n hw hx (by omega) hs6).1) ?_
        refine g_iaddN (pc' := 56) dX11_piecesForWhole_55 rfl ?_
        refine g_istore_n (pc' := 57) dX11_piecesForWhole_56 rfl (by decide) rfl ?_
        try simp only [List.set]
        refine g_iincN (k := 1) (pc' := 60) dX11_piecesForWhole_57 rfl rfl (by decide) rfl ?_
        try simp only [List.set]
        refine g_goto (tgt := 5) dX11_piecesForWhole_60 (by decide) ?_
        have q := ih (t + 1) (by omega) (by omega)
        rw [smN_s] at q
        rw [show whf m k s t = hsN m t s from cif_t c34] at q
        exact q
set_option maxRecDepth 4000 in
theorem cx_piecesForWhole {E : En} (hok : EOK E) {h : Hp} {m : St} (hc : Cp m h) (hw : Wf m) (hx : Wx m) {k : Nat} (hk : k < nK m) {s : Nat} (hs6 : s < 6) : Call E m_X11_piecesForWhole 5 0 0 [vR TH, vR (2, k), vI (nI s)] h (fun r0 h' => r0 = some (vI (nI (whS m k s))) ∧ h = h') := by
  have hs := hc.s
  have hKb := hw.k.2
  have hTb := hw.t.2
  have hFb := hw.f.2
  have hRb := hw.r.2
  have hGb := hw.g.2
  have hAb := hw.a.2
  have hTlb := hw.tl.2
  have hNwb := hw.w.2
  refine Call.enter hok (by decide) (Nat.le_of_ble_eq_true rfl) ?_
  show G E m_X11_piecesForWhole 5 0 0 _ h 0 [some (vR TH), some (vR (2, k)), some (vI (nI s)), none, none] [] h 0 0
  refine g_iconstN (n := 0) (pc' := 1) dX11_piecesForWhole_0 rfl ?_
  refine g_istore_n (pc' := 2) dX11_piecesForWhole_1 rfl (by decide) rfl ?_
  try simp only [List.set]
  refine g_iconstN (n := 0) (pc' := 3) dX11_piecesForWhole_2 rfl ?_
  refine g_istore (pc' := 5) dX11_piecesForWhole_3 rfl (by decide) rfl ?_
  try simp only [List.set]
  exact lx_pieces4 hok hc hw hx hk hs6 (Nat.le_refl _) ⟨rfl, rfl⟩ _ 0 (Nat.zero_le _) rfl
set_option maxRecDepth 4000 in
theorem lx_could1 {E : En} (hok : EOK E) {h h0 : Hp} {m : St} (hc : Cp m h) (hw : Wf m) (hx : Wx m) {k : Nat} (hk : k < nK m) {d : Nat} (hd : 6 ≤ d) {Q : Option V → Hp → Prop} (hQ : G E m_X11_couldBeWhole d 0 0 Q h0 43 [some (vR TH), some (vR (2, k)), some (vI (nI (cnt (sp m k) (nT m)))), none] [] h 0 0) : ∀ n t : Nat, t ≤ nT m → nT m - t = n → G E m_X11_couldBeWhole d 0 0 Q h0 4 [some (vR TH), some (vR (2, k)), some (vI (nI (cnt (sp m k) t))), some (vI (nI t))] [] (h) 0 0 := by
  have hs := hc.s
  have hKb := hw.k.2
  have hTb := hw.t.2
  have hFb := hw.f.2
  have hRb := hw.r.2
  have hGb := hw.g.2
  have hAb := hw.a.2
  have hTlb := hw.tl.2
  have hNwb := hw.w.2
  intro n
  induction n with
  | zero =>
    intro t h1 h2
    refine g_iload_n (pc' := 5) dX11_couldBeWhole_4 rfl rfl ?_
    refine g_aload_n (pc' := 6) dX11_couldBeWhole_5 rfl rfl ?_
    refine g_getS (pc' := 9) (k := 11) (b := (13, 1)) dX11_couldBeWhole_6 rfl rfl ck_12 (by decide) fl_X11_35 rfl hs rfl ?_
    refine g_invV (pc' := 12) (ls_size hok hc.c6.1) dX11_couldBeWhole_9 rfl rfl ck_0 rfl ml_X11_103 im_Jx4a65c_size_8abf5 sl_Jx4a65c_size_8abf5 in_Jx4a65c co_Jx4a65c_size_8abf5 pd_Jx4a65c_size_8abf5 rfl (by omega) (by decide) ⟨by decide, by decide⟩ (Nat.le_of_ble_eq_true rfl) ?_
    rintro _ _ ⟨rfl, rfl⟩ -
    refine g_icmp_geN (tgt := 43) (pc' := 15) dX11_couldBeWhole_12 rfl (by decide) (by omega) (by omega) (fun c12 => ?_) (fun c12 => ?_)
    ·
      have e : t = nT m := by omega
      subst e
      refine G.drop 3 ?_
      simp only [List.set]
      exact hQ
    · exact absurd c12 (by omega)
  | succ n ih =>
    intro t h1 h2
    refine g_iload_n (pc' := 5) dX11_couldBeWhole_4 rfl rfl ?_
    refine g_aload_n (pc' := 6) dX11_couldBeWhole_5 rfl rfl ?_
    refine g_getS (pc' := 9) (k := 11) (b := (13, 1)) dX11_couldBeWhole_6 rfl rfl ck_12 (by decide) fl_X11_35 rfl hs rfl ?_
    refine g_invV (pc' := 12) (ls_size hok hc.c6.1) dX11_couldBeWhole_9 rfl rfl ck_0 rfl ml_X11_103 im_Jx4a65c_size_8abf5 sl_Jx4a65c_size_8abf5 in_Jx4a65c co_Jx4a65c_size_8abf5 pd_Jx4a65c_size_8abf5 rfl (by omega) (by decide) ⟨by decide, by decide⟩ (Nat.le_of_ble_eq_true rfl) ?_
    rintro _ _ ⟨rfl, rfl⟩ -
    refine g_icmp_geN (tgt := 43) (pc' := 15) dX11_couldBeWhole_12 rfl (by decide) (by omega) (by omega) (fun c12 => ?_) (fun c12 => ?_)
    · exact absurd c12 (by omega)
    ·
      refine g_aload_n (pc' := 16) dX11_couldBeWhole_15 rfl rfl ?_
      refine g_aload_n (pc' := 17) dX11_couldBeWhole_16 rfl rfl ?_
      refine g_getS (pc' := 20) (k := 11) (b := (13, 1)) dX11_couldBeWhole_17 rfl rfl ck_12 (by decide) fl_X11_35 rfl hs rfl ?_
      refine g_iload_n (pc' := 21) dX11_couldBeWhole_20 rfl rfl ?_
      refine g_invV (pc' := 24) (ls_get hok hc.c6.1 (j := t) (by omega) (by omega)) dX11_couldBeWhole_21 rfl rfl ck_0 rfl ml_X11_324 im_Jx4a65c_get_915e3 sl_Jx4a65c_get_915e3 in_Jx4a65c co_Jx4a65c_get_915e3 pd_Jx4a65c_get_915e3 rfl (by omega) (by decide) ⟨by decide, by decide⟩ (Nat.le_of_ble_eq_true rfl) ?_
      rintro _ _ ⟨rfl, rfl⟩ -
      refine g_cast (pc' := 27) dX11_couldBeWhole_24 rfl rfl ck_9 cl_X11_133 ?_
      refine g_aload_n (pc' := 28) dX11_couldBeWhole_27 rfl rfl ?_
      refine g_invV (pc' := 31) (cx_isForWhole hok hc hw hk (t := t) (by omega)) dX11_couldBeWhole_28 rfl rfl ck_12 rfl ml_X11_505 im_X11_isForWhole sl_X11_isForWhole in_X11 co_X11_isForWhole pd_X11_isForWhole rfl (by omega) (by decide) ⟨by decide, by decide⟩ (Nat.le_of_ble_eq_true rfl) ?_
      rintro _ _ ⟨rfl, rfl⟩ -
      refine g_ifB_eq (tgt := 37) (pc' := 34) dX11_couldBeWhole_31 rfl (by decide) (fun c31 => ?_) (fun c31 => ?_)
      ·
        refine g_iincN (k := 1) (pc' := 40) dX11_couldBeWhole_37 rfl rfl (by decide) rfl ?_
        try simp only [List.set]
        refine g_goto (tgt := 4) dX11_couldBeWhole_40 (by decide) ?_
        have q := ih (t + 1) (by omega) (by omega)
        rw [cnt_f (p := (sp m k)) c31, Nat.add_zero] at q
        exact q
      ·
        refine g_iincN (k := 1) (pc' := 37) dX11_couldBeWhole_34 rfl rfl (by decide) rfl ?_
        try simp only [List.set]
        refine g_iincN (k := 1) (pc' := 40) dX11_couldBeWhole_37 rfl rfl (by decide) rfl ?_
        try simp only [List.set]
        refine g_goto (tgt := 4) dX11_couldBeWhole_40 (by decide) ?_
        have q := ih (t + 1) (by omega) (by omega)
        rw [cnt_t (p := (sp m k)) c31] at q
        exact q
theorem wh_min {a b w : Nat} (ha : a ≤ 96) (hb : 0 < b) (hw : w ≤ 16) : (if nI (a / b) < nI w then nI (a / b) else nI w) = nI (cif (0 < b ∧ a / b < w) (a / b) w) := by
  have hd := Nat.div_le_self a b
  by_cases q : a / b < w
  · rw [if_pos ((nI_ltI (by omega) (by omega)).mpr q), cif_t ⟨hb, q⟩]
  · rw [if_neg (fun z => q ((nI_ltI (by omega) (by omega)).mp z)), cif_f (fun z => q z.2)]
set_option maxRecDepth 4000 in
theorem lx_could2 {E : En} (hok : EOK E) {h h0 : Hp} {m : St} (hc : Cp m h) (hw : Wf m) (hx : Wx m) {k : Nat} (hk : k < nK m) {d : Nat} (hd : 6 ≤ d) {Q : Option V → Hp → Prop} (hQ : Q (some (vI (nI (whN m k 6)))) h) : ∀ n s : Nat, s ≤ 6 → 6 - s = n → G E m_X11_couldBeWhole d 0 0 Q h0 45 [some (vR TH), some (vR (2, k)), some (vI (nI (whN m k s))), some (vI (nI s))] [] (h) 0 0 := by
  have hs := hc.s
  have hKb := hw.k.2
  have hTb := hw.t.2
  have hFb := hw.f.2
  have hRb := hw.r.2
  have hGb := hw.g.2
  have hAb := hw.a.2
  have hTlb := hw.tl.2
  have hNwb := hw.w.2
  intro n
  induction n with
  | zero =>
    intro s h1 h2
    refine g_iload_n (pc' := 46) dX11_couldBeWhole_45 rfl rfl ?_
    refine g_bipushN (n := 6) (pc' := 48) dX11_couldBeWhole_46 rfl (by decide) ?_
    refine g_icmp_geN (tgt := 84) (pc' := 51) dX11_couldBeWhole_48 rfl (by decide) (by omega) (by omega) (fun c48 => ?_) (fun c48 => ?_)
    ·
      refine g_iload_n (pc' := 85) dX11_couldBeWhole_84 rfl rfl ?_
      refine g_iret dX11_couldBeWhole_85 rfl (by decide) (by decide) ?_
      have e : s = 6 := by omega
      subst e
      exact hQ
    · exact absurd c48 (by omega)
  | succ n ih =>
    intro s h1 h2
    refine g_iload_n (pc' := 46) dX11_couldBeWhole_45 rfl rfl ?_
    refine g_bipushN (n := 6) (pc' := 48) dX11_couldBeWhole_46 rfl (by decide) ?_
    refine g_icmp_geN (tgt := 84) (pc' := 51) dX11_couldBeWhole_48 rfl (by decide) (by omega) (by omega) (fun c48 => ?_) (fun c48 => ?_)
    · exact absurd c48 (by omega)
    ·
      have hwb : whS m k s ≤ 96 := whS_le hw hx (by omega) (Nat.le_refl _)
      have hpb := (pc_n hx hk (show s < 6 by omega)).2
      have hdv := Nat.div_le_self (whS m k s) (pcN m k s)
      have hwl := whN_le m k s
      have hcl := cnt_le (sp m k) (nT m)
      refine g_aload_n (pc' := 52) dX11_couldBeWhole_51 rfl rfl ?_
      refine g_getS (pc' := 55) (k := 6) (b := (24, k)) dX11_couldBeWhole_52 rfl rfl ck_3 (by decide) fl_X11_127 rfl hs rfl ?_
      refine g_iload_n (pc' := 56) dX11_couldBeWhole_55 rfl rfl ?_
      refine g_ialdN (pc' := 57) (v := nI (pcN m k s)) dX11_couldBeWhole_56 rfl rfl (by decide) (by omega) (((hc.c5.2.1 k hk).2.1 s (by omega)).trans (pc_n hx hk (show s < 6 by omega)).1) ?_
      refine g_if_leN (tgt := 78) (pc' := 60) dX11_couldBeWhole_57 rfl (by decide) (by omega) (fun c57 => ?_) (fun c57 => ?_)
      ·
        refine g_iincN (k := 1) (pc' := 81) dX11_couldBeWhole_78 rfl rfl (by decide) rfl ?_
        try simp only [List.set]
        refine g_goto (tgt := 45) dX11_couldBeWhole_81 (by decide) ?_
        have q := ih (s + 1) (by omega) (by omega)
        rw [whN_s, cif_f (fun z => by omega)] at q
        exact q
      ·
        refine g_iload_n (pc' := 61) dX11_couldBeWhole_60 rfl rfl ?_
        refine g_aload_n (pc' := 62) dX11_couldBeWhole_61 rfl rfl ?_
        refine g_aload_n (pc' := 63) dX11_couldBeWhole_62 rfl rfl ?_
        refine g_iload_n (pc' := 64) dX11_couldBeWhole_63 rfl rfl ?_
        refine g_invV (pc' := 67) (cx_piecesForWhole hok hc hw hx hk (s := s) (by omega)) dX11_couldBeWhole_64 rfl rfl ck_12 rfl ml_X11_509 im_X11_piecesForWhole sl_X11_piecesForWhole in_X11 co_X11_piecesForWhole pd_X11_piecesForWhole rfl (by omega) (by decide) ⟨by decide, by decide⟩ (Nat.le_of_ble_eq_true rfl) ?_
        rintro _ _ ⟨rfl, rfl⟩ -
        refine g_aload_n (pc' := 68) dX11_couldBeWhole_67 rfl rfl ?_
        refine g_getS (pc' := 71) (k := 6) (b := (24, k)) dX11_couldBeWhole_68 rfl rfl ck_3 (by decide) fl_X11_127 rfl hs rfl ?_
        refine g_iload_n (pc' := 72) dX11_couldBeWhole_71 rfl rfl ?_
        refine g_ialdN (pc' := 73) (v := nI (pcN m k s)) dX11_couldBeWhole_72 rfl rfl (by decide) (by omega) (((hc.c5.2.1 k hk).2.1 s (by omega)).trans (pc_n hx hk (show s < 6 by omega)).1) ?_
        refine g_idivN (pc' := 74) dX11_couldBeWhole_73 rfl (by omega) (by omega) (by omega) ?_
        refine g_min (pc' := 77) dX11_couldBeWhole_74 rfl ml_X11_512 mn_s in_J9 mn_c (by omega) (by decide) (by decide) (Nat.le_of_ble_eq_true rfl) ?_
        rw [wh_min (by omega) (by omega) (by omega)]
        refine g_istore_n (pc' := 78) dX11_couldBeWhole_77 rfl (by decide) rfl ?_
        try simp only [List.set]
        refine g_iincN (k := 1) (pc' := 81) dX11_couldBeWhole_78 rfl rfl (by decide) rfl ?_
        try simp only [List.set]
        refine g_goto (tgt := 45) dX11_couldBeWhole_81 (by decide) ?_
        have q := ih (s + 1) (by omega) (by omega)
        rw [whN_s] at q
        exact q
set_option maxRecDepth 4000 in
theorem cx_couldBeWhole {E : En} (hok : EOK E) {h : Hp} {m : St} (hc : Cp m h) (hw : Wf m) (hx : Wx m) {k : Nat} (hk : k < nK m) : Fn E m_X11_couldBeWhole 6 [vR TH, vR (2, k)] h (vI (nI (whN m k 6))) := by
  have hs := hc.s
  have hKb := hw.k.2
  have hTb := hw.t.2
  have hFb := hw.f.2
  have hRb := hw.r.2
  have hGb := hw.g.2
  have hAb := hw.a.2
  have hTlb := hw.tl.2
  have hNwb := hw.w.2
  refine Call.enter hok (by decide) (Nat.le_of_ble_eq_true rfl) ?_
  show G E m_X11_couldBeWhole 6 0 0 _ h 0 [some (vR TH), some (vR (2, k)), none, none] [] h 0 0
  refine g_iconstN (n := 0) (pc' := 1) dX11_couldBeWhole_0 rfl ?_
  refine g_istore_n (pc' := 2) dX11_couldBeWhole_1 rfl (by decide) rfl ?_
  try simp only [List.set]
  refine g_iconstN (n := 0) (pc' := 3) dX11_couldBeWhole_2 rfl ?_
  refine g_istore_n (pc' := 4) dX11_couldBeWhole_3 rfl (by decide) rfl ?_
  try simp only [List.set]
  refine lx_could1 hok hc hw hx hk (Nat.le_refl _) ?_ _ 0 (Nat.zero_le _) rfl
  refine g_iconstN (n := 0) (pc' := 44) dX11_couldBeWhole_43 rfl ?_
  refine g_istore_n (pc' := 45) dX11_couldBeWhole_44 rfl (by decide) rfl ?_
  try simp only [List.set]
  exact lx_could2 hok hc hw hx hk (Nat.le_refl _) ⟨rfl, rfl⟩ _ 0 (Nat.zero_le _) rfl
theorem and1_0 (x : Int32) (k : Nat) : (x >>> (nI k &&& 31)) &&& nI 1 = 0 ↔ ¬ hasB x k := by
  unfold hasB
  rw [and1_iff]
  generalize x >>> (nI k &&& 31) = y
  constructor
  · intro e z
    have q := (and1_iff y).mpr z
    rw [e] at q
    exact absurd q (by decide)
  · intro z
    refine bt_eq fun j hj => ?_
    rw [bt_and, bt_0]
    have e1 : ∀ j, j < 32 → bt (nI 1) j = decide (j = 0) := by decide +kernel
    rw [e1 j hj]
    by_cases q : j = 0
    · subst q
      cases w : bt y 0 with
      | false => simp
      | true => exact absurd w z
    · simp [q]
set_option maxRecDepth 4000 in
theorem lx_least2 {E : En} (hok : EOK E) {h h0 : Hp} {m : St} (hc : Cp m h) (hw : Wf m) (hx : Wx m) {k : Nat} (hk : k < nK m) {i W : Nat} {d : Nat} (hd : 5 ≤ d) {Q : Option V → Hp → Prop} (hQ : G E m_X11_leastLackingSet d 0 0 Q h0 110 [some (vR TH), some (vR (2, k)), some (vI (nI W)), some (vI (wsF m k i).1), some (vI (nI i)), some (vI (oI (bsF (wsP m k i) (lckN m) (nT m)))), none, none, none, none] [] h 0 0) : ∀ n t : Nat, t ≤ nT m → nT m - t = n → G E m_X11_leastLackingSet d 0 0 Q h0 20 [some (vR TH), some (vR (2, k)), some (vI (nI W)), some (vI (wsF m k i).1), some (vI (nI i)), some (vI (oI (bsF (wsP m k i) (lckN m) t))), some (vI (oL (lckN m) (bsF (wsP m k i) (lckN m) t))), some (vI (nI t)), none, none] [] (h) 0 0 := by
  have hs := hc.s
  have hKb := hw.k.2
  have hTb := hw.t.2
  have hFb := hw.f.2
  have hRb := hw.r.2
  have hGb := hw.g.2
  have hAb := hw.a.2
  have hTlb := hw.tl.2
  have hNwb := hw.w.2
  intro n
  induction n with
  | zero =>
    intro t h1 h2
    refine g_iload (pc' := 22) dX11_leastLackingSet_20 rfl rfl ?_
    refine g_aload_n (pc' := 23) dX11_leastLackingSet_22 rfl rfl ?_
    refine g_getS (pc' := 26) (k := 11) (b := (13, 1)) dX11_leastLackingSet_23 rfl rfl ck_12 (by decide) fl_X11_35 rfl hs rfl ?_
    refine g_invV (pc' := 29) (ls_size hok hc.c6.1) dX11_leastLackingSet_26 rfl rfl ck_0 rfl ml_X11_103 im_Jx4a65c_size_8abf5 sl_Jx4a65c_size_8abf5 in_Jx4a65c co_Jx4a65c_size_8abf5 pd_Jx4a65c_size_8abf5 rfl (by omega) (by decide) ⟨by decide, by decide⟩ (Nat.le_of_ble_eq_true rfl) ?_
    rintro _ _ ⟨rfl, rfl⟩ -
    refine g_icmp_geN (tgt := 110) (pc' := 32) dX11_leastLackingSet_29 rfl (by decide) (by omega) (by omega) (fun c29 => ?_) (fun c29 => ?_)
    ·
      have e : t = nT m := by omega
      subst e
      refine G.drop 6 ?_
      refine G.drop 7 ?_
      simp only [List.set]
      exact hQ
    · exact absurd c29 (by omega)
  | succ n ih =>
    intro t h1 h2
    refine g_iload (pc' := 22) dX11_leastLackingSet_20 rfl rfl ?_
    refine g_aload_n (pc' := 23) dX11_leastLackingSet_22 rfl rfl ?_
    refine g_getS (pc' := 26) (k := 11) (b := (13, 1)) dX11_leastLackingSet_23 rfl rfl ck_12 (by decide) fl_X11_35 rfl hs rfl ?_
    refine g_invV (pc' := 29) (ls_size hok hc.c6.1) dX11_leastLackingSet_26 rfl rfl ck_0 rfl ml_X11_103 im_Jx4a65c_size_8abf5 sl_Jx4a65c_size_8abf5 in_Jx4a65c co_Jx4a65c_size_8abf5 pd_Jx4a65c_size_8abf5 rfl (by omega) (by decide) ⟨by decide, by decide⟩ (Nat.le_of_ble_eq_true rfl) ?_
    rintro _ _ ⟨rfl, rfl⟩ -
    refine g_icmp_geN (tgt := 110) (pc' := 32) dX11_leastLackingSet_29 rfl (by decide) (by omega) (by omega) (fun c29 => ?_) (fun c29 => ?_)
    · exact absurd c29 (by omega)
    ·
      refine g_aload_n (pc' := 33) dX11_leastLackingSet_32 rfl rfl ?_
      refine g_getS (pc' := 36) (k := 11) (b := (13, 1)) dX11_leastLackingSet_33 rfl rfl ck_12 (by decide) fl_X11_35 rfl hs rfl ?_
      refine g_iload (pc' := 38) dX11_leastLackingSet_36 rfl rfl ?_
      refine g_invV (pc' := 41) (ls_get hok hc.c6.1 (j := t) (by omega) (by omega)) dX11_leastLackingSet_38 rfl rfl ck_0 rfl ml_X11_324 im_Jx4a65c_get_915e3 sl_Jx4a65c_get_915e3 in_Jx4a65c co_Jx4a65c_get_915e3 pd_Jx4a65c_get_915e3 rfl (by omega) (by decide) ⟨by decide, by decide⟩ (Nat.le_of_ble_eq_true rfl) ?_
      rintro _ _ ⟨rfl, rfl⟩ -
      refine g_cast (pc' := 44) dX11_leastLackingSet_41 rfl rfl ck_9 cl_X11_133 ?_
      refine g_astore (pc' := 46) dX11_leastLackingSet_44 rfl (by decide) rfl ?_
      try simp only [List.set]
      refine g_iload_n (pc' := 47) dX11_leastLackingSet_46 rfl rfl ?_
      refine g_iload (pc' := 49) dX11_leastLackingSet_47 rfl rfl ?_
      refine g_ishr (pc' := 50) dX11_leastLackingSet_49 rfl ?_
      refine g_iconstN (n := 1) (pc' := 51) dX11_leastLackingSet_50 rfl ?_
      refine g_iand (pc' := 52) dX11_leastLackingSet_51 rfl ?_
      refine g_if_ne (tgt := 69) (pc' := 55) dX11_leastLackingSet_52 rfl (by decide) (fun c52 => ?_) (fun c52 => ?_)
      ·
        refine g_iconstN (n := 0) (pc' := 70) dX11_leastLackingSet_69 rfl ?_
        refine g_istore (pc' := 72) dX11_leastLackingSet_70 rfl (by decide) rfl ?_
        try simp only [List.set]
        refine g_iload (pc' := 74) dX11_leastLackingSet_72 rfl rfl ?_
        refine g_if_eqN (tgt := 104) (pc' := 77) dX11_leastLackingSet_74 rfl (by decide) (by decide) (fun _ => ?_) (fun q => False.elim (by revert q; decide))
        refine g_iincN (k := 1) (pc' := 107) dX11_leastLackingSet_104 rfl rfl (by decide) rfl ?_
        try simp only [List.set]
        refine g_goto (tgt := 20) dX11_leastLackingSet_107 (by decide) ?_
        refine G.drop 8 ?_
        refine G.drop 9 ?_
        simp only [List.set]
        have q := ih (t + 1) (by omega) (by omega)
        rw [bs_skip (P := (wsP m k i)) (fun z => c52 ((and1_0 _ _).mpr z.2))] at q
        exact q
      ·
        refine g_aload_n (pc' := 56) dX11_leastLackingSet_55 rfl rfl ?_
        refine g_aload (pc' := 58) dX11_leastLackingSet_56 rfl rfl ?_
        refine g_aload_n (pc' := 59) dX11_leastLackingSet_58 rfl rfl ?_
        refine g_invV (pc' := 62) (cx_isForWhole hok hc hw hk (t := t) (by omega)) dX11_leastLackingSet_59 rfl rfl ck_12 rfl ml_X11_505 im_X11_isForWhole sl_X11_isForWhole in_X11 co_X11_isForWhole pd_X11_isForWhole rfl (by omega) (by decide) ⟨by decide, by decide⟩ (Nat.le_of_ble_eq_true rfl) ?_
        rintro _ _ ⟨rfl, rfl⟩ -
        refine g_ifB_eq (tgt := 69) (pc' := 65) dX11_leastLackingSet_62 rfl (by decide) (fun c62 => ?_) (fun c62 => ?_)
        ·
          refine g_iconstN (n := 0) (pc' := 70) dX11_leastLackingSet_69 rfl ?_
          refine g_istore (pc' := 72) dX11_leastLackingSet_70 rfl (by decide) rfl ?_
          try simp only [List.set]
          refine g_iload (pc' := 74) dX11_leastLackingSet_72 rfl rfl ?_
          refine g_if_eqN (tgt := 104) (pc' := 77) dX11_leastLackingSet_74 rfl (by decide) (by decide) (fun _ => ?_) (fun q => False.elim (by revert q; decide))
          refine g_iincN (k := 1) (pc' := 107) dX11_leastLackingSet_104 rfl rfl (by decide) rfl ?_
          try simp only [List.set]
          refine g_goto (tgt := 20) dX11_leastLackingSet_107 (by decide) ?_
          refine G.drop 8 ?_
          refine G.drop 9 ?_
          simp only [List.set]
          have q := ih (t + 1) (by omega) (by omega)
          rw [bs_skip (P := (wsP m k i)) (fun z => c62 z.1)] at q
          exact q
        ·
          refine g_iconstN (n := 1) (pc' := 66) dX11_leastLackingSet_65 rfl ?_
          refine g_goto (tgt := 70) dX11_leastLackingSet_66 (by decide) ?_
          refine g_istore (pc' := 72) dX11_leastLackingSet_70 rfl (by decide) rfl ?_
          try simp only [List.set]
          refine g_iload (pc' := 74) dX11_leastLackingSet_72 rfl rfl ?_
          refine g_if_eqN (tgt := 104) (pc' := 77) dX11_leastLackingSet_74 rfl (by decide) (by decide) (fun q => False.elim (by revert q; decide)) (fun _ => ?_)
          refine g_iload (pc' := 79) dX11_leastLackingSet_77 rfl rfl ?_
          refine g_iconst (v := -1) (pc' := 80) dX11_leastLackingSet_79 rfl (by decide) ?_
          refine g_icmp_eq (tgt := 93) (pc' := 83) dX11_leastLackingSet_80 rfl (by decide) (fun c80 => ?_) (fun c80 => ?_)
          ·
            refine g_iload (pc' := 95) dX11_leastLackingSet_93 rfl rfl ?_
            refine g_istore (pc' := 97) dX11_leastLackingSet_95 rfl (by decide) rfl ?_
            try simp only [List.set]
            refine g_aload (pc' := 99) dX11_leastLackingSet_97 rfl rfl ?_
            refine g_invV (pc' := 102) (cx_lacking hok hc hw (t := t) (by omega)) dX11_leastLackingSet_99 rfl rfl ck_9 rfl ml_X11_265 im_X8_lacking sl_X8_lacking in_X8 co_X8_lacking pd_X8_lacking rfl (by omega) (by decide) ⟨by decide, by decide⟩ (Nat.le_of_ble_eq_true rfl) ?_
            rintro _ _ ⟨rfl, rfl⟩ -
            rw [(lck_n hw hx (show t < nT m by omega)).1]
            have hlk99 := (lck_n hw hx (show t < nT m by omega)).2
            refine g_istore (pc' := 104) dX11_leastLackingSet_102 rfl (by decide) rfl ?_
            try simp only [List.set]
            refine g_iincN (k := 1) (pc' := 107) dX11_leastLackingSet_104 rfl rfl (by decide) rfl ?_
            try simp only [List.set]
            refine g_goto (tgt := 20) dX11_leastLackingSet_107 (by decide) ?_
            refine G.drop 8 ?_
            refine G.drop 9 ?_
            simp only [List.set]
            have q := ih (t + 1) (by omega) (by omega)
            rw [bs_first (P := (wsP m k i)) (oI_none (by omega) c80) ⟨c62, (and1_0 _ _).mp c52⟩] at q
            exact q
          ·
            obtain ⟨b, hb, hbt, hbP⟩ := oI_some c80
            have hlb := (lck_n hw hx (show b < nT m by omega)).2
            rw [hb]
            simp only [oI, oL]
            refine g_aload (pc' := 85) dX11_leastLackingSet_83 rfl rfl ?_
            refine g_invV (pc' := 88) (cx_lacking hok hc hw (t := t) (by omega)) dX11_leastLackingSet_85 rfl rfl ck_9 rfl ml_X11_265 im_X8_lacking sl_X8_lacking in_X8 co_X8_lacking pd_X8_lacking rfl (by omega) (by decide) ⟨by decide, by decide⟩ (Nat.le_of_ble_eq_true rfl) ?_
            rintro _ _ ⟨rfl, rfl⟩ -
            rw [(lck_n hw hx (show t < nT m by omega)).1]
            have hlk85 := (lck_n hw hx (show t < nT m by omega)).2
            refine g_iload (pc' := 90) dX11_leastLackingSet_88 rfl rfl ?_
            refine g_icmp_geN (tgt := 104) (pc' := 93) dX11_leastLackingSet_90 rfl (by decide) (by omega) (by omega) (fun c90 => ?_) (fun c90 => ?_)
            ·
              refine g_iincN (k := 1) (pc' := 107) dX11_leastLackingSet_104 rfl rfl (by decide) rfl ?_
              try simp only [List.set]
              refine g_goto (tgt := 20) dX11_leastLackingSet_107 (by decide) ?_
              refine G.drop 8 ?_
              refine G.drop 9 ?_
              simp only [List.set]
              have q := ih (t + 1) (by omega) (by omega)
              rw [bs_more (P := (wsP m k i)) hb (by omega)] at q
              exact q
            ·
              refine g_iload (pc' := 95) dX11_leastLackingSet_93 rfl rfl ?_
              refine g_istore (pc' := 97) dX11_leastLackingSet_95 rfl (by decide) rfl ?_
              try simp only [List.set]
              refine g_aload (pc' := 99) dX11_leastLackingSet_97 rfl rfl ?_
              refine g_invV (pc' := 102) (cx_lacking hok hc hw (t := t) (by omega)) dX11_leastLackingSet_99 rfl rfl ck_9 rfl ml_X11_265 im_X8_lacking sl_X8_lacking in_X8 co_X8_lacking pd_X8_lacking rfl (by omega) (by decide) ⟨by decide, by decide⟩ (Nat.le_of_ble_eq_true rfl) ?_
              rintro _ _ ⟨rfl, rfl⟩ -
              rw [(lck_n hw hx (show t < nT m by omega)).1]
              have hlk99 := (lck_n hw hx (show t < nT m by omega)).2
              refine g_istore (pc' := 104) dX11_leastLackingSet_102 rfl (by decide) rfl ?_
              try simp only [List.set]
              refine g_iincN (k := 1) (pc' := 107) dX11_leastLackingSet_104 rfl rfl (by decide) rfl ?_
              try simp only [List.set]
              refine g_goto (tgt := 20) dX11_leastLackingSet_107 (by decide) ?_
              refine G.drop 8 ?_
              refine G.drop 9 ?_
              simp only [List.set]
              have q := ih (t + 1) (by omega) (by omega)
              rw [bs_less (P := (wsP m k i)) hb ⟨c62, (and1_0 _ _).mp c52⟩ (by omega)] at q
              exact q
set_option maxRecDepth 4000 in
theorem lx_least1 {E : En} (hok : EOK E) {h h0 : Hp} {m : St} (hc : Cp m h) (hw : Wf m) (hx : Wx m) {k : Nat} (hk : k < nK m) {W : Nat} (hW : W ≤ cnt (sp m k) (nT m)) {d : Nat} (hd : 5 ≤ d) {Q : Option V → Hp → Prop} (hQ : Q (some (vI (wsF m k W).1)) h) : ∀ n i : Nat, i ≤ W → W - i = n → G E m_X11_leastLackingSet d 0 0 Q h0 5 [some (vR TH), some (vR (2, k)), some (vI (nI W)), some (vI (wsF m k i).1), some (vI (nI i)), none, none, none, none, none] [] (h) 0 0 := by
  have hs := hc.s
  have hKb := hw.k.2
  have hTb := hw.t.2
  have hFb := hw.f.2
  have hRb := hw.r.2
  have hGb := hw.g.2
  have hAb := hw.a.2
  have hTlb := hw.tl.2
  have hNwb := hw.w.2
  have hcl := cnt_le (sp m k) (nT m)
  intro n
  induction n with
  | zero =>
    intro i h1 h2
    refine g_iload (pc' := 7) dX11_leastLackingSet_5 rfl rfl ?_
    refine g_iload_n (pc' := 8) dX11_leastLackingSet_7 rfl rfl ?_
    refine g_icmp_geN (tgt := 129) (pc' := 11) dX11_leastLackingSet_8 rfl (by decide) (by omega) (by omega) (fun c8 => ?_) (fun c8 => ?_)
    ·
      refine g_iload_n (pc' := 130) dX11_leastLackingSet_129 rfl rfl ?_
      refine g_iret dX11_leastLackingSet_130 rfl (by decide) (by decide) ?_
      have e : i = W := by omega
      subst e
      exact hQ
    · exact absurd c8 (by omega)
  | succ n ih =>
    intro i h1 h2
    refine g_iload (pc' := 7) dX11_leastLackingSet_5 rfl rfl ?_
    refine g_iload_n (pc' := 8) dX11_leastLackingSet_7 rfl rfl ?_
    refine g_icmp_geN (tgt := 129) (pc' := 11) dX11_leastLackingSet_8 rfl (by decide) (by omega) (by omega) (fun c8 => ?_) (fun c8 => ?_)
    · exact absurd c8 (by omega)
    ·
      refine g_iconst (v := -1) (pc' := 12) dX11_leastLackingSet_11 rfl (by decide) ?_
      refine g_istore (pc' := 14) dX11_leastLackingSet_12 rfl (by decide) rfl ?_
      try simp only [List.set]
      refine g_iconstN (n := 0) (pc' := 15) dX11_leastLackingSet_14 rfl ?_
      refine g_istore (pc' := 17) dX11_leastLackingSet_15 rfl (by decide) rfl ?_
      try simp only [List.set]
      refine g_iconstN (n := 0) (pc' := 18) dX11_leastLackingSet_17 rfl ?_
      refine g_istore (pc' := 20) dX11_leastLackingSet_18 rfl (by decide) rfl ?_
      try simp only [List.set]
      refine lx_least2 hok hc hw hx hk hd ?_ _ 0 (Nat.zero_le _) rfl
      have ha := ws_inv hTb k i (by omega)
      obtain ⟨b, hb⟩ := ha.2.2.2 (by omega)
      obtain ⟨hb1, -⟩ := bs_some hb
      rw [hb]
      simp only [oI]
      refine g_iload (pc' := 112) dX11_leastLackingSet_110 rfl rfl ?_
      refine g_iconst (v := -1) (pc' := 113) dX11_leastLackingSet_112 rfl (by decide) ?_
      refine g_icmp_eq (tgt := 123) (pc' := 116) dX11_leastLackingSet_113 rfl (by decide) (fun c113 => ?_) (fun c113 => ?_)
      · exact absurd c113 (nI_ne_neg (by omega))
      ·
        refine g_iload_n (pc' := 117) dX11_leastLackingSet_116 rfl rfl ?_
        refine g_iconst (v := 1) (pc' := 118) dX11_leastLackingSet_117 rfl (by decide) ?_
        refine g_iload (pc' := 120) dX11_leastLackingSet_118 rfl rfl ?_
        refine g_ishl (pc' := 121) dX11_leastLackingSet_120 rfl ?_
        refine g_ior (pc' := 122) dX11_leastLackingSet_121 rfl ?_
        refine g_istore_n (pc' := 123) dX11_leastLackingSet_122 rfl (by decide) rfl ?_
        try simp only [List.set]
        refine g_iincN (k := 1) (pc' := 126) dX11_leastLackingSet_123 rfl rfl (by decide) rfl ?_
        try simp only [List.set]
        refine g_goto (tgt := 5) dX11_leastLackingSet_126 (by decide) ?_
        refine G.drop 5 ?_
        simp only [List.set]
        have q := ih (i + 1) (by omega) (by omega)
        rw [ws_some hb] at q
        exact q
set_option maxRecDepth 4000 in
theorem cx_least {E : En} (hok : EOK E) {h : Hp} {m : St} (hc : Cp m h) (hw : Wf m) (hx : Wx m) {k : Nat} (hk : k < nK m) {W : Nat} (hW : W ≤ cnt (sp m k) (nT m)) : Call E m_X11_leastLackingSet 5 0 0 [vR TH, vR (2, k), vI (nI W)] h (fun r0 h' => r0 = some (vI (wsF m k W).1) ∧ h = h') := by
  have hs := hc.s
  have hKb := hw.k.2
  have hTb := hw.t.2
  have hFb := hw.f.2
  have hRb := hw.r.2
  have hGb := hw.g.2
  have hAb := hw.a.2
  have hTlb := hw.tl.2
  have hNwb := hw.w.2
  refine Call.enter hok (by decide) (Nat.le_of_ble_eq_true rfl) ?_
  show G E m_X11_leastLackingSet 5 0 0 _ h 0 [some (vR TH), some (vR (2, k)), some (vI (nI W)), none, none, none, none, none, none, none] [] h 0 0
  refine g_iconst (v := 0) (pc' := 1) dX11_leastLackingSet_0 rfl (by decide) ?_
  refine g_istore_n (pc' := 2) dX11_leastLackingSet_1 rfl (by decide) rfl ?_
  try simp only [List.set]
  refine g_iconstN (n := 0) (pc' := 3) dX11_leastLackingSet_2 rfl ?_
  refine g_istore (pc' := 5) dX11_leastLackingSet_3 rfl (by decide) rfl ?_
  try simp only [List.set]
  exact lx_least1 hok hc hw hx hk hW (Nat.le_refl _) ⟨rfl, rfl⟩ _ 0 (Nat.zero_le _) rfl
theorem lsum_le {m : St} (hw : Wf m) (hx : Wx m) (x : Int32) {n : Nat} (hn : n ≤ nT m) : smN (fun t => cif (hasB x t) (lckN m t) 0) n ≤ 576 := by
  have a := smN_b (f := (fun t => cif (hasB x t) (lckN m t) 0)) (B := 36) (n := n) (fun t ht => by
    have b := (lck_n hw hx (show t < nT m by omega)).2
    by_cases y : hasB x t
    · show cif _ _ _ ≤ _
      rw [cif_t y]; exact b
    · show cif _ _ _ ≤ _
      rw [cif_f y]; omega)
  have := hw.t.2
  omega
set_option maxRecDepth 4000 in
theorem lx_lackSet {E : En} (hok : EOK E) {h h0 : Hp} {m : St} (hc : Cp m h) (hw : Wf m) (hx : Wx m) (x : Int32) {d : Nat} (hd : 4 ≤ d) {Q : Option V → Hp → Prop} (hQ : Q (some (vI (nI (smN (fun t => cif (hasB x t) (lckN m t) 0) (nT m))))) h) : ∀ n t : Nat, t ≤ nT m → nT m - t = n → G E m_X11_lackingOfSet d 0 0 Q h0 4 [some (vR TH), some (vI x), some (vI (nI (smN (fun t => cif (hasB x t) (lckN m t) 0) t))), some (vI (nI t))] [] (h) 0 0 := by
  have hs := hc.s
  have hKb := hw.k.2
  have hTb := hw.t.2
  have hFb := hw.f.2
  have hRb := hw.r.2
  have hGb := hw.g.2
  have hAb := hw.a.2
  have hTlb := hw.tl.2
  have hNwb := hw.w.2
  intro n
  induction n with
  | zero =>
    intro t h1 h2
    refine g_iload_n (pc' := 5) dX11_lackingOfSet_4 rfl rfl ?_
    refine g_aload_n (pc' := 6) dX11_lackingOfSet_5 rfl rfl ?_
    refine g_getS (pc' := 9) (k := 11) (b := (13, 1)) dX11_lackingOfSet_6 rfl rfl ck_12 (by decide) fl_X11_35 rfl hs rfl ?_
    refine g_invV (pc' := 12) (ls_size hok hc.c6.1) dX11_lackingOfSet_9 rfl rfl ck_0 rfl ml_X11_103 im_Jx4a65c_size_8abf5 sl_Jx4a65c_size_8abf5 in_Jx4a65c co_Jx4a65c_size_8abf5 pd_Jx4a65c_size_8abf5 rfl (by omega) (by decide) ⟨by decide, by decide⟩ (Nat.le_of_ble_eq_true rfl) ?_
    rintro _ _ ⟨rfl, rfl⟩ -
    refine g_icmp_geN (tgt := 47) (pc' := 15) dX11_lackingOfSet_12 rfl (by decide) (by omega) (by omega) (fun c12 => ?_) (fun c12 => ?_)
    ·
      refine g_iload_n (pc' := 48) dX11_lackingOfSet_47 rfl rfl ?_
      refine g_iret dX11_lackingOfSet_48 rfl (by decide) (by decide) ?_
      have e : t = nT m := by omega
      subst e
      exact hQ
    · exact absurd c12 (by omega)
  | succ n ih =>
    intro t h1 h2
    refine g_iload_n (pc' := 5) dX11_lackingOfSet_4 rfl rfl ?_
    refine g_aload_n (pc' := 6) dX11_lackingOfSet_5 rfl rfl ?_
    refine g_getS (pc' := 9) (k := 11) (b := (13, 1)) dX11_lackingOfSet_6 rfl rfl ck_12 (by decide) fl_X11_35 rfl hs rfl ?_
    refine g_invV (pc' := 12) (ls_size hok hc.c6.1) dX11_lackingOfSet_9 rfl rfl ck_0 rfl ml_X11_103 im_Jx4a65c_size_8abf5 sl_Jx4a65c_size_8abf5 in_Jx4a65c co_Jx4a65c_size_8abf5 pd_Jx4a65c_size_8abf5 rfl (by omega) (by decide) ⟨by decide, by decide⟩ (Nat.le_of_ble_eq_true rfl) ?_
    rintro _ _ ⟨rfl, rfl⟩ -
    refine g_icmp_geN (tgt := 47) (pc' := 15) dX11_lackingOfSet_12 rfl (by decide) (by omega) (by omega) (fun c12 => ?_) (fun c12 => ?_)
    · exact absurd c12 (by omega)
    ·
      refine g_iload_n (pc' := 16) dX11_lackingOfSet_15 rfl rfl ?_
      refine g_iload_n (pc' := 17) dX11_lackingOfSet_16 rfl rfl ?_
      refine g_ishr (pc' := 18) dX11_lackingOfSet_17 rfl ?_
      refine g_iconstN (n := 1) (pc' := 19) dX11_lackingOfSet_18 rfl ?_
      refine g_iand (pc' := 20) dX11_lackingOfSet_19 rfl ?_
      refine g_iconstN (n := 1) (pc' := 21) dX11_lackingOfSet_20 rfl ?_
      refine g_icmp_ne (tgt := 41) (pc' := 24) dX11_lackingOfSet_21 rfl (by decide) (fun c21 => ?_) (fun c21 => ?_)
      ·
        refine g_iincN (k := 1) (pc' := 44) dX11_lackingOfSet_41 rfl rfl (by decide) rfl ?_
        try simp only [List.set]
        refine g_goto (tgt := 4) dX11_lackingOfSet_44 (by decide) ?_
        have q := ih (t + 1) (by omega) (by omega)
        rw [smN_s] at q
        rw [show cif (hasB x t) (lckN m t) 0 = _ from cif_f c21, Nat.add_zero] at q
        exact q
      ·
        refine g_iload_n (pc' := 25) dX11_lackingOfSet_24 rfl rfl ?_
        refine g_aload_n (pc' := 26) dX11_lackingOfSet_25 rfl rfl ?_
        refine g_getS (pc' := 29) (k := 11) (b := (13, 1)) dX11_lackingOfSet_26 rfl rfl ck_12 (by decide) fl_X11_35 rfl hs rfl ?_
        refine g_iload_n (pc' := 30) dX11_lackingOfSet_29 rfl rfl ?_
        refine g_invV (pc' := 33) (ls_get hok hc.c6.1 (j := t) (by omega) (by omega)) dX11_lackingOfSet_30 rfl rfl ck_0 rfl ml_X11_324 im_Jx4a65c_get_915e3 sl_Jx4a65c_get_915e3 in_Jx4a65c co_Jx4a65c_get_915e3 pd_Jx4a65c_get_915e3 rfl (by omega) (by decide) ⟨by decide, by decide⟩ (Nat.le_of_ble_eq_true rfl) ?_
        rintro _ _ ⟨rfl, rfl⟩ -
        refine g_cast (pc' := 36) dX11_lackingOfSet_33 rfl rfl ck_9 cl_X11_133 ?_
        refine g_invV (pc' := 39) (cx_lacking hok hc hw (t := t) (by omega)) dX11_lackingOfSet_36 rfl rfl ck_9 rfl ml_X11_265 im_X8_lacking sl_X8_lacking in_X8 co_X8_lacking pd_X8_lacking rfl (by omega) (by decide) ⟨by decide, by decide⟩ (Nat.le_of_ble_eq_true rfl) ?_
        rintro _ _ ⟨rfl, rfl⟩ -
        rw [(lck_n hw hx (show t < nT m by omega)).1]
        have hlk36 := (lck_n hw hx (show t < nT m by omega)).2
        refine g_iaddN (pc' := 40) dX11_lackingOfSet_39 rfl ?_
        refine g_istore_n (pc' := 41) dX11_lackingOfSet_40 rfl (by decide) rfl ?_
        try simp only [List.set]
        refine g_iincN (k := 1) (pc' := 44) dX11_lackingOfSet_41 rfl rfl (by decide) rfl ?_
        try simp only [List.set]
        refine g_goto (tgt := 4) dX11_lackingOfSet_44 (by decide) ?_
        have q := ih (t + 1) (by omega) (by omega)
        rw [smN_s] at q
        rw [show cif (hasB x t) (lckN m t) 0 = _ from cif_t c21] at q
        exact q
set_option maxRecDepth 4000 in
theorem cx_lackSet {E : En} (hok : EOK E) {h : Hp} {m : St} (hc : Cp m h) (hw : Wf m) (hx : Wx m) (x : Int32) : Call E m_X11_lackingOfSet 4 0 0 [vR TH, vI x] h (fun r0 h' => r0 = some (vI (nI (smN (fun t => cif (hasB x t) (lckN m t) 0) (nT m)))) ∧ h = h') := by
  have hs := hc.s
  have hKb := hw.k.2
  have hTb := hw.t.2
  have hFb := hw.f.2
  have hRb := hw.r.2
  have hGb := hw.g.2
  have hAb := hw.a.2
  have hTlb := hw.tl.2
  have hNwb := hw.w.2
  refine Call.enter hok (by decide) (Nat.le_of_ble_eq_true rfl) ?_
  show G E m_X11_lackingOfSet 4 0 0 _ h 0 [some (vR TH), some (vI x), none, none] [] h 0 0
  refine g_iconstN (n := 0) (pc' := 1) dX11_lackingOfSet_0 rfl ?_
  refine g_istore_n (pc' := 2) dX11_lackingOfSet_1 rfl (by decide) rfl ?_
  try simp only [List.set]
  refine g_iconstN (n := 0) (pc' := 3) dX11_lackingOfSet_2 rfl ?_
  refine g_istore_n (pc' := 4) dX11_lackingOfSet_3 rfl (by decide) rfl ?_
  try simp only [List.set]
  exact lx_lackSet hok hc hw hx x (Nat.le_refl _) ⟨rfl, rfl⟩ _ 0 (Nat.zero_le _) rfl
set_option maxRecDepth 4000 in
theorem cx_whole {E : En} (hok : EOK E) {h : Hp} {m : St} (hc : Cp m h) (hw : Wf m) (hx : Wx m) (k0 : Int32) (x : Int32) : Call E m_X11_whole 7 0 0 [vR TH, vI k0, vI x] h (fun r h' => r = some (vI (sWhole m k0 x).1) ∧ Cp (sWhole m k0 x).2 h' ∧ mo h' = mo h) := by
  have hs := hc.s
  have hKb := hw.k.2
  have hTb := hw.t.2
  have hFb := hw.f.2
  have hRb := hw.r.2
  have hGb := hw.g.2
  have hAb := hw.a.2
  have hTlb := hw.tl.2
  have hNwb := hw.w.2
  refine Call.enter hok (by decide) (Nat.le_of_ble_eq_true rfl) ?_
  show G E m_X11_whole 7 0 0 _ h 0 [some (vR TH), some (vI k0), some (vI x), none, none, none] [] h 0 0
  refine g_aload_n (pc' := 1) dX11_whole_0 rfl rfl ?_
  refine g_iload_n (pc' := 2) dX11_whole_1 rfl rfl ?_
  rcases Classical.em (∃ j : Nat, j < nK m ∧ k0 = nI j) with w2 | w2
  ·
    have k2 := w2
    obtain ⟨k, hk, rfl⟩ := k2
    refine g_invV (pc' := 5) (cx_kindAt hok hc hw hk) dX11_whole_2 rfl rfl ck_12 rfl ml_X11_119 im_X11_kindAt sl_X11_kindAt in_X11 co_X11_kindAt pd_X11_kindAt rfl (by omega) (by decide) ⟨by decide, by decide⟩ (Nat.le_of_ble_eq_true rfl) ?_
    rintro _ _ ⟨rfl, rfl⟩ -
    refine g_astore_n (pc' := 6) dX11_whole_5 rfl (by decide) rfl ?_
    try simp only [List.set]
    refine g_aload_n (pc' := 7) dX11_whole_6 rfl rfl ?_
    refine g_ifnull (pc' := 10) dX11_whole_7 rfl ?_
    refine g_iload_n (pc' := 11) dX11_whole_10 rfl rfl ?_
    refine g_iconstN (n := 0) (pc' := 12) dX11_whole_11 rfl ?_
    refine g_iconstN (n := 2) (pc' := 13) dX11_whole_12 rfl ?_
    refine g_invS (pc' := 16) (cx_within hok _ _ _) dX11_whole_13 rfl ml_X11_99 st_X11_within in_X11 co_X11_within pd_X11_within rfl (by omega) (by decide) ⟨by decide, by decide⟩ (Nat.le_of_ble_eq_true rfl) ?_
    rintro _ _ ⟨rfl, rfl⟩ -
    refine g_ifB_ne (tgt := 21) (pc' := 19) dX11_whole_16 rfl (by decide) (fun c16 => ?_) (fun c16 => ?_)
    ·
      refine g_aload_n (pc' := 22) dX11_whole_21 rfl rfl ?_
      refine g_aload_n (pc' := 23) dX11_whole_22 rfl rfl ?_
      refine g_invV (pc' := 26) (cx_couldBeWhole hok hc hw hx hk) dX11_whole_23 rfl rfl ck_12 rfl ml_X11_302 im_X11_couldBeWhole sl_X11_couldBeWhole in_X11 co_X11_couldBeWhole pd_X11_couldBeWhole rfl (by omega) (by decide) ⟨by decide, by decide⟩ (Nat.le_of_ble_eq_true rfl) ?_
      rintro _ _ ⟨rfl, rfl⟩ -
      refine g_istore (pc' := 28) dX11_whole_26 rfl (by decide) rfl ?_
      try simp only [List.set]
      refine g_iload_n (pc' := 29) dX11_whole_28 rfl rfl ?_
      refine g_if_ne (tgt := 35) (pc' := 32) dX11_whole_29 rfl (by decide) (fun c29 => ?_) (fun c29 => ?_)
      ·
        refine g_aload_n (pc' := 36) dX11_whole_35 rfl rfl ?_
        refine g_aload_n (pc' := 37) dX11_whole_36 rfl rfl ?_
        refine g_iload (pc' := 39) dX11_whole_37 rfl rfl ?_
        refine g_invV (pc' := 42) (cx_least hok hc hw hx hk (W := whN m k 6) (whN_le m k 6)) dX11_whole_39 rfl rfl ck_12 rfl ml_X11_306 im_X11_leastLackingSet sl_X11_leastLackingSet in_X11 co_X11_leastLackingSet pd_X11_leastLackingSet rfl (by omega) (by decide) ⟨by decide, by decide⟩ (Nat.le_of_ble_eq_true rfl) ?_
        rintro _ _ ⟨rfl, rfl⟩ -
        refine g_istore (pc' := 44) dX11_whole_42 rfl (by decide) rfl ?_
        try simp only [List.set]
        refine g_iload_n (pc' := 45) dX11_whole_44 rfl rfl ?_
        refine g_iconstN (n := 1) (pc' := 46) dX11_whole_45 rfl ?_
        refine g_icmp_ne (tgt := 58) (pc' := 49) dX11_whole_46 rfl (by decide) (fun c46 => ?_) (fun c46 => ?_)
        ·
          refine g_iload (pc' := 60) dX11_whole_58 rfl rfl ?_
          refine g_iret dX11_whole_60 rfl (by decide) (by decide) ?_
          have e : sWhole m (nI k) x = (whA m k x, m) := by unfold sWhole; simp only [nI_clamp (show k < 2 ^ 31 by omega)]; exact cif_t ⟨w2, c16⟩
          rw [e]
          exact ⟨congrArg (fun z : Int32 => some (vI z)) (show _ = whA m k x from ((cif_f c29).trans (cif_f c46)).symm), hc, rfl⟩
        ·
          refine g_aload_n (pc' := 50) dX11_whole_49 rfl rfl ?_
          refine g_iload (pc' := 52) dX11_whole_50 rfl rfl ?_
          refine g_invV (pc' := 55) (cx_lackSet hok hc hw hx _) dX11_whole_52 rfl rfl ck_12 rfl ml_X11_310 im_X11_lackingOfSet sl_X11_lackingOfSet in_X11 co_X11_lackingOfSet pd_X11_lackingOfSet rfl (by omega) (by decide) ⟨by decide, by decide⟩ (Nat.le_of_ble_eq_true rfl) ?_
          rintro _ _ ⟨rfl, rfl⟩ -
          refine g_goto (tgt := 60) dX11_whole_55 (by decide) ?_
          refine g_iret dX11_whole_60 rfl (by decide) (by decide) ?_
          have e : sWhole m (nI k) x = (whA m k x, m) := by unfold sWhole; simp only [nI_clamp (show k < 2 ^ 31 by omega)]; exact cif_t ⟨w2, c16⟩
          rw [e]
          have es := (ws_inv hTb k (whN m k 6) (whN_le m k 6)).2.2.1
          exact ⟨congrArg (fun z : Int32 => some (vI z)) (show _ = whA m k x from ((cif_f c29).trans ((cif_t c46).trans (by rw [es]))).symm), hc, rfl⟩
      ·
        refine g_iload (pc' := 34) dX11_whole_32 rfl rfl ?_
        refine g_iret dX11_whole_34 rfl (by decide) (by decide) ?_
        have e : sWhole m (nI k) x = (whA m k x, m) := by unfold sWhole; simp only [nI_clamp (show k < 2 ^ 31 by omega)]; exact cif_t ⟨w2, c16⟩
        rw [e]
        exact ⟨congrArg (fun z : Int32 => some (vI z)) (show _ = whA m k x from (cif_t c29).symm), hc, rfl⟩
    ·
      refine g_iconst (v := -1) (pc' := 20) dX11_whole_19 rfl (by decide) ?_
      refine g_iret dX11_whole_20 rfl (by decide) (by decide) ?_
      have e : sWhole m (nI k) x = (-1, m) := cif_f (fun z => c16 z.2)
      rw [e]
      exact ⟨rfl, hc, rfl⟩
  ·
    refine g_invV (pc' := 5) (cx_kindAtN hok hc hw w2) dX11_whole_2 rfl rfl ck_12 rfl ml_X11_119 im_X11_kindAt sl_X11_kindAt in_X11 co_X11_kindAt pd_X11_kindAt rfl (by omega) (by decide) ⟨by decide, by decide⟩ (Nat.le_of_ble_eq_true rfl) ?_
    rintro _ _ ⟨rfl, rfl⟩ -
    refine g_astore_n (pc' := 6) dX11_whole_5 rfl (by decide) rfl ?_
    try simp only [List.set]
    refine g_aload_n (pc' := 7) dX11_whole_6 rfl rfl ?_
    refine g_ifnullN (tgt := 19) dX11_whole_7 (by decide) ?_
    refine g_iconst (v := -1) (pc' := 20) dX11_whole_19 rfl (by decide) ?_
    refine g_iret dX11_whole_20 rfl (by decide) (by decide) ?_
    have e : sWhole m k0 x = (-1, m) := cif_f (fun z => w2 z.1)
    rw [e]
    exact ⟨rfl, hc, rfl⟩
