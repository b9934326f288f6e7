set_option maxRecDepth 4000 in
theorem cx_servedMore {E : En} (hok : EOK E) {h : Hp} {a b : Nat} (h8 : h.1 (10, 0) 8 = nI a) (h7 : h.1 (10, 0) 7 = nI b) : Call E m_X7_servedMore 0 0 0 [vR (10, 0)] h (fun r0 h' => r0 = some (vI (nI a - nI b)) ∧ h = h') := by
  refine Call.enter hok (by decide) (Nat.le_of_ble_eq_true rfl) ?_
  show G E m_X7_servedMore 0 0 0 _ h 0 [some (vR (10, 0))] [] h 0 0
  refine g_aload_n (pc' := 1) dX7_servedMore_0 rfl rfl ?_
  refine g_getIv (v := nI (a)) (pc' := 4) (k := 8) dX7_servedMore_1 rfl rfl ck_8 (by decide) fl_X7_39 rfl (h8) ?_
  refine g_aload_n (pc' := 5) dX7_servedMore_4 rfl rfl ?_
  refine g_getIv (v := nI (b)) (pc' := 8) (k := 7) dX7_servedMore_5 rfl rfl ck_8 (by decide) fl_X7_36 rfl (h7) ?_
  refine g_isub (pc' := 9) dX7_servedMore_8 rfl ?_
  refine g_iret dX7_servedMore_9 rfl (by decide) (by decide) ?_
  exact ⟨rfl, rfl⟩
set_option maxRecDepth 4000 in
theorem cx_bought {E : En} (hok : EOK E) {h : Hp} (hs : Shp h.2) {n k v : Nat} (hk : k < n) (hn : n ≤ 8) (h5 : h.1 (10, 0) 5 = nI n) (hv : h.1 (54, 0) k = nI v) : Call E m_X7_bought 1 0 0 [vR (10, 0), vI (nI k)] h (fun r0 h' => r0 = some (vI (nI v)) ∧ h = h') := by
  refine Call.enter hok (by decide) (Nat.le_of_ble_eq_true rfl) ?_
  show G E m_X7_bought 1 0 0 _ h 0 [some (vR (10, 0)), some (vI (nI k))] [] h 0 0
  refine g_iload_n (pc' := 1) dX7_bought_0 rfl rfl ?_
  refine g_iconstN (n := 0) (pc' := 2) dX7_bought_1 rfl ?_
  refine g_aload_n (pc' := 3) dX7_bought_2 rfl rfl ?_
  refine g_getIv (v := nI (n)) (pc' := 6) (k := 5) dX7_bought_3 rfl rfl ck_8 (by decide) fl_X7_29 rfl (h5) ?_
  refine g_iconstN (n := 1) (pc' := 7) dX7_bought_6 rfl ?_
  refine g_isub (pc' := 8) dX7_bought_7 rfl ?_
  refine g_invSN (pc' := 11) (cx_within hok _ _ _) dX7_bought_8 rfl nn_X7_55 st_X11_within in_X11 co_X11_within pd_X11_within rfl (by omega) (by decide) ⟨by decide, by decide⟩ (Nat.le_of_ble_eq_true rfl) ?_
  rintro _ _ ⟨rfl, rfl⟩ -
  refine g_ifB_eq (tgt := 23) (pc' := 14) dX7_bought_11 rfl (by decide) (fun c11 => ?_) (fun c11 => ?_)
  · exact absurd ((inN_iff (by omega)).mpr ⟨k, hk, rfl⟩) c11
  ·
    refine g_aload_n (pc' := 15) dX7_bought_14 rfl rfl ?_
    refine g_getS (pc' := 18) (k := 4) (b := (54, 0)) dX7_bought_15 rfl rfl ck_8 (by decide) fl_X7_26 rfl hs rfl ?_
    refine g_iload_n (pc' := 19) dX7_bought_18 rfl rfl ?_
    refine g_ialdN (pc' := 20) (v := nI v) dX7_bought_19 rfl rfl (by decide) (by omega) (hv) ?_
    refine g_goto (tgt := 24) dX7_bought_20 (by decide) ?_
    refine g_iret dX7_bought_24 rfl (by decide) (by decide) ?_
    exact ⟨rfl, rfl⟩
set_option maxRecDepth 4000 in
theorem lx_buying {E : En} (hok : EOK E) {h h0 : Hp} {m : St} (hc0 : Cp m h) (hw : Wf m) (hx : Wx m) {w A : Nat} (hA6 : A ≤ 60000) (hw99 : w ≤ 99) (x : Int32) (hxq : x = -1 ∨ x = nI 8 ∨ ∃ j : Nat, j < nK m ∧ x = nI j) {d : Nat} (hd : 12 ≤ d) {Q : Option V → Hp → Prop} (hQ : ∀ h1, Sc h h1 → C13 h1 → Q (some (vI (buA m w A x))) h1) : ∀ n k (hh : Hp), k ≤ nK m → nK m - k = n → (Sc h hh ∧ C13 hh ∧ ZO m w A k hh) → G E m_X11_buying d 0 0 Q h0 65 [some (vR TH), some (vI (nI A)), some (vI (nI w)), some (vI x), none, some (vI (nI k)), none] [] hh 0 0 := by
  have hKb := hw.k.2
  have hTb := hw.t.2
  have hFb := hw.f.2
  intro n
  induction n with
  | zero =>
    intro k hh h1 h2 hi
    have hc : Cp m hh := hc0.sc hi.1 hi.2.1
    have hs := hc.s
    refine g_iload (pc' := 67) dX11_buying_65 rfl rfl ?_
    refine g_aload_n (pc' := 68) dX11_buying_67 rfl rfl ?_
    refine g_getS (pc' := 71) (k := 10) (b := (13, 0)) dX11_buying_68 rfl rfl ck_12 (by decide) fl_X11_31 rfl hs rfl ?_
    refine g_invV (pc' := 74) (ls_size hok hc.c5.1) dX11_buying_71 rfl rfl ck_0 rfl ml_X11_103 im_Jx4a65c_size_8abf5 sl_Jx4a65c_size_8abf5 in_Jx4a65c co_Jx4a65c_size_8abf5 pd_Jx4a65c_size_8abf5 rfl (by omega) (by decide) ⟨by decide, by decide⟩ (Nat.le_of_ble_eq_true rfl) ?_
    rintro _ _ ⟨rfl, rfl⟩ -
    refine g_icmp_geN (tgt := 122) (pc' := 77) dX11_buying_74 rfl (by decide) (by omega) (by omega) (fun c74 => ?_) (fun c74 => ?_)
    ·
      have e : k = nK m := by omega
      subst e
      refine g_aload_n (pc' := 123) dX11_buying_122 rfl rfl ?_
      refine g_getS (pc' := 126) (k := 17) (b := (10, 0)) dX11_buying_123 rfl rfl ck_12 (by decide) fl_X11_77 rfl hs rfl ?_
      refine g_invV (pc' := 129) (cx_ssearch hok hs hw hx hA6 hi.2.2 hi.2.1) dX11_buying_126 rfl rfl ck_8 rfl ml_X11_371 im_X7_search sl_X7_search in_X7 co_X7_search pd_X7_search rfl (by omega) (by decide) ⟨by decide, by decide⟩ (Nat.le_of_ble_eq_true rfl) ?_
      rintro _ h1 ⟨rfl, s1, k1, a5, a7, en⟩ -
      have hc1 : Cp m h1 := hc.sc s1 k1
      have hs := hc1.s
      refine g_iload_n (pc' := 130) dX11_buying_129 rfl rfl ?_
      refine g_iconst (v := -1) (pc' := 131) dX11_buying_130 rfl (by decide) ?_
      refine g_icmp_ne (tgt := 142) (pc' := 134) dX11_buying_131 rfl (by decide) (fun c131 => ?_) (fun c131 => ?_)
      ·
        refine g_iload_n (pc' := 143) dX11_buying_142 rfl rfl ?_
        refine g_bipushN (n := 8) (pc' := 145) dX11_buying_143 rfl (by decide) ?_
        refine g_icmp_ne (tgt := 158) (pc' := 148) dX11_buying_145 rfl (by decide) (fun c145 => ?_) (fun c145 => ?_)
        ·
          obtain ⟨j, hj, rfl⟩ := (hxq.resolve_left c131).resolve_left c145
          refine g_aload_n (pc' := 159) dX11_buying_158 rfl rfl ?_
          refine g_getS (pc' := 162) (k := 17) (b := (10, 0)) dX11_buying_159 rfl rfl ck_12 (by decide) fl_X11_77 rfl hs rfl ?_
          refine g_iload_n (pc' := 163) dX11_buying_162 rfl rfl ?_
          refine g_invV (pc' := 166) (cx_bought hok hs hj hKb a5 (en.2.2 j hj)) dX11_buying_163 rfl rfl ck_8 rfl ml_X11_379 im_X7_bought sl_X7_bought in_X7 co_X7_bought pd_X7_bought rfl (by omega) (by decide) ⟨by decide, by decide⟩ (Nat.le_of_ble_eq_true rfl) ?_
          rintro _ _ ⟨rfl, rfl⟩ -
          refine g_iret dX11_buying_166 rfl (by decide) (by decide) ?_
          have qq := hQ h1 (hi.1.tr s1) k1
          rw [show buA m w A (nI j) = _ from (cif_f c131).trans ((cif_f c145).trans (by rw [nI_clamp (by omega)]))] at qq
          exact qq
        ·
          refine g_aload_n (pc' := 149) dX11_buying_148 rfl rfl ?_
          refine g_getS (pc' := 152) (k := 17) (b := (10, 0)) dX11_buying_149 rfl rfl ck_12 (by decide) fl_X11_77 rfl hs rfl ?_
          refine g_getIv (v := nI (buF m w A (q4 (nK m))).2.2) (pc' := 155) (k := 9) dX11_buying_152 rfl rfl ck_8 (by decide) fl_X11_376 rfl (en.2.1) ?_
          refine g_goto (tgt := 166) dX11_buying_155 (by decide) ?_
          refine g_iret dX11_buying_166 rfl (by decide) (by decide) ?_
          have qq := hQ h1 (hi.1.tr s1) k1
          rw [show buA m w A x = _ from (cif_f c131).trans (cif_t c145)] at qq
          exact qq
      ·
        refine g_aload_n (pc' := 135) dX11_buying_134 rfl rfl ?_
        refine g_getS (pc' := 138) (k := 17) (b := (10, 0)) dX11_buying_135 rfl rfl ck_12 (by decide) fl_X11_77 rfl hs rfl ?_
        refine g_invV (pc' := 141) (cx_servedMore hok en.1 a7) dX11_buying_138 rfl rfl ck_8 rfl ml_X11_373 im_X7_servedMore sl_X7_servedMore in_X7 co_X7_servedMore pd_X7_servedMore rfl (by omega) (by decide) ⟨by decide, by decide⟩ (Nat.le_of_ble_eq_true rfl) ?_
        rintro _ _ ⟨rfl, rfl⟩ -
        refine g_iret dX11_buying_141 rfl (by decide) (by decide) ?_
        have qq := hQ h1 (hi.1.tr s1) k1
        rw [show buA m w A x = _ from cif_t c131] at qq
        exact qq
    · exact absurd c74 (by omega)
  | succ n ih =>
    intro k hh h1 h2 hi
    have hc : Cp m hh := hc0.sc hi.1 hi.2.1
    have hs := hc.s
    refine g_iload (pc' := 67) dX11_buying_65 rfl rfl ?_
    refine g_aload_n (pc' := 68) dX11_buying_67 rfl rfl ?_
    refine g_getS (pc' := 71) (k := 10) (b := (13, 0)) dX11_buying_68 rfl rfl ck_12 (by decide) fl_X11_31 rfl hs rfl ?_
    refine g_invV (pc' := 74) (ls_size hok hc.c5.1) dX11_buying_71 rfl rfl ck_0 rfl ml_X11_103 im_Jx4a65c_size_8abf5 sl_Jx4a65c_size_8abf5 in_Jx4a65c co_Jx4a65c_size_8abf5 pd_Jx4a65c_size_8abf5 rfl (by omega) (by decide) ⟨by decide, by decide⟩ (Nat.le_of_ble_eq_true rfl) ?_
    rintro _ _ ⟨rfl, rfl⟩ -
    refine g_icmp_geN (tgt := 122) (pc' := 77) dX11_buying_74 rfl (by decide) (by omega) (by omega) (fun c74 => ?_) (fun c74 => ?_)
    · exact absurd c74 (by omega)
    ·
      refine g_aload_n (pc' := 78) dX11_buying_77 rfl rfl ?_
      refine g_getS (pc' := 81) (k := 10) (b := (13, 0)) dX11_buying_78 rfl rfl ck_12 (by decide) fl_X11_31 rfl hs rfl ?_
      refine g_iload (pc' := 83) dX11_buying_81 rfl rfl ?_
      refine g_invV (pc' := 86) (ls_get hok hc.c5.1 (j := k) (by omega) (by omega)) dX11_buying_83 rfl rfl ck_0 rfl ml_X11_324 im_Jx4a65c_get_915e3 sl_Jx4a65c_get_915e3 in_Jx4a65c co_Jx4a65c_get_915e3 pd_Jx4a65c_get_915e3 rfl (by omega) (by decide) ⟨by decide, by decide⟩ (Nat.le_of_ble_eq_true rfl) ?_
      rintro _ _ ⟨rfl, rfl⟩ -
      refine g_cast (pc' := 89) dX11_buying_86 rfl rfl ck_3 cl_X11_107 ?_
      refine g_astore (pc' := 91) dX11_buying_89 rfl (by decide) rfl ?_
      try simp only [List.set]
      have hwb : wfr m k ≤ nF m := cnt_le _ _
      have htb : th m k ≤ nT m := cnt_le _ _
      refine g_aload_n (pc' := 92) dX11_buying_91 rfl rfl ?_
      refine g_getS (pc' := 95) (k := 17) (b := (10, 0)) dX11_buying_92 rfl rfl ck_12 (by decide) fl_X11_77 rfl hs rfl ?_
      refine g_aload (pc' := 97) dX11_buying_95 rfl rfl ?_
      refine g_getIv (v := nI (prN m k)) (pc' := 100) (k := 2) dX11_buying_97 rfl rfl ck_3 (by decide) fl_X11_362 rfl ((hc.k2 (k := k) (by omega)).trans (pr_n hx (by omega)).1) ?_
      refine g_aload_n (pc' := 101) dX11_buying_100 rfl rfl ?_
      refine g_aload (pc' := 103) dX11_buying_101 rfl rfl ?_
      refine g_invV (pc' := 106) (cx_waitingFor hok hc hw (k := k) (by omega)) dX11_buying_103 rfl rfl ck_12 rfl ml_X11_347 im_X11_waitingFor sl_X11_waitingFor in_X11 co_X11_waitingFor pd_X11_waitingFor rfl (by omega) (by decide) ⟨by decide, by decide⟩ (Nat.le_of_ble_eq_true rfl) ?_
      rintro _ _ ⟨rfl, rfl⟩ -
      refine g_aload_n (pc' := 107) dX11_buying_106 rfl rfl ?_
      refine g_aload (pc' := 109) dX11_buying_107 rfl rfl ?_
      refine g_invV (pc' := 112) (cx_usable hok hc hw hx (k := k) (by omega)) dX11_buying_109 rfl rfl ck_12 rfl ml_X11_365 im_X11_usableToys sl_X11_usableToys in_X11 co_X11_usableToys pd_X11_usableToys rfl (by omega) (by decide) ⟨by decide, by decide⟩ (Nat.le_of_ble_eq_true rfl) ?_
      rintro _ _ ⟨rfl, rfl⟩ -
      refine g_iload_n (pc' := 113) dX11_buying_112 rfl rfl ?_
      refine g_invV (pc' := 116) (cx_soffer hok hs (k := k) (wt := wfr m k) (tt := th m k) (w := w) (sn := preS m w k 0) (by omega) (by omega) (by omega) (by omega) hi.2.2.1 hi.2.2.2.2.1 hi.2.2.2.2.2.2.2 _) dX11_buying_113 rfl rfl ck_8 rfl ml_X11_368 im_X7_offer sl_X7_offer in_X7 co_X7_offer pd_X7_offer rfl (by omega) (by decide) ⟨by decide, by decide⟩ (Nat.le_of_ble_eq_true rfl) ?_
      rintro _ _ ⟨rfl, rfl⟩ -
      refine g_iincN (k := 1) (pc' := 119) dX11_buying_116 rfl rfl (by decide) rfl ?_
      try simp only [List.set]
      refine g_goto (tgt := 65) dX11_buying_119 (by decide) ?_
      refine G.drop 6 ?_
      simp only [List.set]
      exact ih (k + 1) _ (by omega) (by omega) ⟨soH_sc hi.1 _ _ _ _, soH_13 hi.2.1 _ _ _ _, ZO_s hi.2.2⟩
set_option maxRecDepth 4000 in
theorem cx_buying {E : En} (hok : EOK E) {h : Hp} {m : St} (hc : Cp m h) (hw : Wf m) (hx : Wx m) (a0 : Int32) (w0 : Int32) (x : Int32) : Call E m_X11_buying 12 0 0 [vR TH, vI a0, vI w0, vI x] h (fun r h' => r = some (vI (sBuying m a0 w0 x).1) ∧ Cp (sBuying m a0 w0 x).2 h' ∧ mo h' = mo h) := by
  have hs := hc.s
  have hKb := hw.k.2
  have hTb := hw.t.2
  have hFb := hw.f.2
  have hRb := hw.r.2
  have hGb := hw.g.2
  have hAb := hw.a.2
  have hTlb := hw.tl.2
  have hNwb := hw.w.2
  refine Call.enter hok (by decide) (Nat.le_of_ble_eq_true rfl) ?_
  show G E m_X11_buying 12 0 0 _ h 0 [some (vR TH), some (vI a0), some (vI w0), some (vI x), none, none, none] [] h 0 0
  refine g_iload_n (pc' := 1) dX11_buying_0 rfl rfl ?_
  refine g_iconst (v := -1) (pc' := 2) dX11_buying_1 rfl (by decide) ?_
  refine g_icmp_eq (tgt := 19) (pc' := 5) dX11_buying_2 rfl (by decide) (fun c2 => ?_) (fun c2 => ?_)
  ·
    refine g_iconstN (n := 1) (pc' := 20) dX11_buying_19 rfl ?_
    refine g_goto (tgt := 24) dX11_buying_20 (by decide) ?_
    refine g_istore (pc' := 26) dX11_buying_24 rfl (by decide) rfl ?_
    try simp only [List.set]
    refine g_iload (pc' := 28) dX11_buying_26 rfl rfl ?_
    refine g_if_eqN (tgt := 52) (pc' := 31) dX11_buying_28 rfl (by decide) (by decide) (fun q => False.elim (by revert q; decide)) (fun _ => ?_)
    refine g_iload_n (pc' := 32) dX11_buying_31 rfl rfl ?_
    refine g_iconstN (n := 0) (pc' := 33) dX11_buying_32 rfl ?_
    refine g_ldcw (pc' := 36) dX11_buying_33 rfl kc_X11_358 ?_
    refine g_invS (pc' := 39) (cx_within hok _ _ _) dX11_buying_36 rfl ml_X11_99 st_X11_within in_X11 co_X11_within pd_X11_within rfl (by omega) (by decide) ⟨by decide, by decide⟩ (Nat.le_of_ble_eq_true rfl) ?_
    rintro _ _ ⟨rfl, rfl⟩ -
    refine g_ifB_eq (tgt := 52) (pc' := 42) dX11_buying_39 rfl (by decide) (fun c39 => ?_) (fun c39 => ?_)
    ·
      refine g_iconst (v := -1) (pc' := 53) dX11_buying_52 rfl (by decide) ?_
      refine g_iret dX11_buying_53 rfl (by decide) (by decide) ?_
      have e : sBuying m a0 w0 x = (-1, m) := cif_f (fun z => c39 z.1)
      rw [e]
      exact ⟨rfl, hc, rfl⟩
    ·
      obtain ⟨A, hA6, rfl⟩ := rng (n := 60000) rfl (by decide) c39
      refine g_iload_n (pc' := 43) dX11_buying_42 rfl rfl ?_
      refine g_iconstN (n := 1) (pc' := 44) dX11_buying_43 rfl ?_
      refine g_bipushN (n := 99) (pc' := 46) dX11_buying_44 rfl (by decide) ?_
      refine g_invS (pc' := 49) (cx_within hok _ _ _) dX11_buying_46 rfl ml_X11_99 st_X11_within in_X11 co_X11_within pd_X11_within rfl (by omega) (by decide) ⟨by decide, by decide⟩ (Nat.le_of_ble_eq_true rfl) ?_
      rintro _ _ ⟨rfl, rfl⟩ -
      refine g_ifB_ne (tgt := 54) (pc' := 52) dX11_buying_49 rfl (by decide) (fun c49 => ?_) (fun c49 => ?_)
      ·
        obtain ⟨w, hw99, rfl⟩ := one_99 c49
        refine g_aload_n (pc' := 55) dX11_buying_54 rfl rfl ?_
        refine g_getS (pc' := 58) (k := 17) (b := (10, 0)) dX11_buying_55 rfl rfl ck_12 (by decide) fl_X11_77 rfl hs rfl ?_
        refine g_iload_n (pc' := 59) dX11_buying_58 rfl rfl ?_
        refine g_invV (pc' := 62) (cx_sbegin hok _) dX11_buying_59 rfl rfl ck_8 rfl ml_X11_359 im_X7_begin sl_X7_begin in_X7 co_X7_begin pd_X7_begin rfl (by omega) (by decide) ⟨by decide, by decide⟩ (Nat.le_of_ble_eq_true rfl) ?_
        rintro _ _ ⟨rfl, rfl⟩ -
        refine g_iconstN (n := 0) (pc' := 63) dX11_buying_62 rfl ?_
        refine g_istore (pc' := 65) dX11_buying_63 rfl (by decide) rfl ?_
        try simp only [List.set]
        have hxq : x = -1 ∨ x = nI 8 ∨ ∃ i : Nat, i < nK m ∧ x = nI i := Or.inl c2
        have e : sBuying m (nI A) (nI w) x = (buA m w A x, m) := by unfold sBuying; simp only [nI_clamp (show A < 2 ^ 31 by omega), nI_clamp (show w < 2 ^ 31 by omega)]; exact cif_t ⟨c39, c49, hxq⟩
        rw [e]
        refine G.drop 4 ?_
        simp only [List.set]
        refine lx_buying hok hc hw hx hA6 hw99.2 x hxq (Nat.le_refl _) (fun h1 s1 k13 => ⟨rfl, hc.sc s1 k13, s1.mo⟩) _ 0 _ (Nat.zero_le _) rfl ⟨?_, hc.c13, ?_⟩
        · exact (((((Sc.rf h).wI rfl).wI rfl).wI rfl).wI rfl).wI rfl
        · exact ⟨by simp [sbH, wI_at], by simp [sbH, wI_at], by simp [sbH, wI_at]; rfl, by simp [sbH, wI_at], fun k hk => absurd hk (Nat.not_lt_zero k), hc.c13.2.2.2.2⟩
      ·
        refine g_iconst (v := -1) (pc' := 53) dX11_buying_52 rfl (by decide) ?_
        refine g_iret dX11_buying_53 rfl (by decide) (by decide) ?_
        have e : sBuying m (nI A) w0 x = (-1, m) := cif_f (fun z => c49 z.2.1)
        rw [e]
        exact ⟨rfl, hc, rfl⟩
  ·
    refine g_iload_n (pc' := 6) dX11_buying_5 rfl rfl ?_
    refine g_bipushN (n := 8) (pc' := 8) dX11_buying_6 rfl (by decide) ?_
    refine g_icmp_eq (tgt := 19) (pc' := 11) dX11_buying_8 rfl (by decide) (fun c8 => ?_) (fun c8 => ?_)
    ·
      refine g_iconstN (n := 1) (pc' := 20) dX11_buying_19 rfl ?_
      refine g_goto (tgt := 24) dX11_buying_20 (by decide) ?_
      refine g_istore (pc' := 26) dX11_buying_24 rfl (by decide) rfl ?_
      try simp only [List.set]
      refine g_iload (pc' := 28) dX11_buying_26 rfl rfl ?_
      refine g_if_eqN (tgt := 52) (pc' := 31) dX11_buying_28 rfl (by decide) (by decide) (fun q => False.elim (by revert q; decide)) (fun _ => ?_)
      refine g_iload_n (pc' := 32) dX11_buying_31 rfl rfl ?_
      refine g_iconstN (n := 0) (pc' := 33) dX11_buying_32 rfl ?_
      refine g_ldcw (pc' := 36) dX11_buying_33 rfl kc_X11_358 ?_
      refine g_invS (pc' := 39) (cx_within hok _ _ _) dX11_buying_36 rfl ml_X11_99 st_X11_within in_X11 co_X11_within pd_X11_within rfl (by omega) (by decide) ⟨by decide, by decide⟩ (Nat.le_of_ble_eq_true rfl) ?_
      rintro _ _ ⟨rfl, rfl⟩ -
      refine g_ifB_eq (tgt := 52) (pc' := 42) dX11_buying_39 rfl (by decide) (fun c39 => ?_) (fun c39 => ?_)
      ·
        refine g_iconst (v := -1) (pc' := 53) dX11_buying_52 rfl (by decide) ?_
        refine g_iret dX11_buying_53 rfl (by decide) (by decide) ?_
        have e : sBuying m a0 w0 x = (-1, m) := cif_f (fun z => c39 z.1)
        rw [e]
        exact ⟨rfl, hc, rfl⟩
      ·
        obtain ⟨A, hA6, rfl⟩ := rng (n := 60000) rfl (by decide) c39
        refine g_iload_n (pc' := 43) dX11_buying_42 rfl rfl ?_
        refine g_iconstN (n := 1) (pc' := 44) dX11_buying_43 rfl ?_
        refine g_bipushN (n := 99) (pc' := 46) dX11_buying_44 rfl (by decide) ?_
        refine g_invS (pc' := 49) (cx_within hok _ _ _) dX11_buying_46 rfl ml_X11_99 st_X11_within in_X11 co_X11_within pd_X11_within rfl (by omega) (by decide) ⟨by decide, by decide⟩ (Nat.le_of_ble_eq_true rfl) ?_
        rintro _ _ ⟨rfl, rfl⟩ -
        refine g_ifB_ne (tgt := 54) (pc' := 52) dX11_buying_49 rfl (by decide) (fun c49 => ?_) (fun c49 => ?_)
        ·
          obtain ⟨w, hw99, rfl⟩ := one_99 c49
          refine g_aload_n (pc' := 55) dX11_buying_54 rfl rfl ?_
          refine g_getS (pc' := 58) (k := 17) (b := (10, 0)) dX11_buying_55 rfl rfl ck_12 (by decide) fl_X11_77 rfl hs rfl ?_
          refine g_iload_n (pc' := 59) dX11_buying_58 rfl rfl ?_
          refine g_invV (pc' := 62) (cx_sbegin hok _) dX11_buying_59 rfl rfl ck_8 rfl ml_X11_359 im_X7_begin sl_X7_begin in_X7 co_X7_begin pd_X7_begin rfl (by omega) (by decide) ⟨by decide, by decide⟩ (Nat.le_of_ble_eq_true rfl) ?_
          rintro _ _ ⟨rfl, rfl⟩ -
          refine g_iconstN (n := 0) (pc' := 63) dX11_buying_62 rfl ?_
          refine g_istore (pc' := 65) dX11_buying_63 rfl (by decide) rfl ?_
          try simp only [List.set]
          have hxq : x = -1 ∨ x = nI 8 ∨ ∃ i : Nat, i < nK m ∧ x = nI i := Or.inr (Or.inl c8)
          have e : sBuying m (nI A) (nI w) x = (buA m w A x, m) := by unfold sBuying; simp only [nI_clamp (show A < 2 ^ 31 by omega), nI_clamp (show w < 2 ^ 31 by omega)]; exact cif_t ⟨c39, c49, hxq⟩
          rw [e]
          refine G.drop 4 ?_
          simp only [List.set]
          refine lx_buying hok hc hw hx hA6 hw99.2 x hxq (Nat.le_refl _) (fun h1 s1 k13 => ⟨rfl, hc.sc s1 k13, s1.mo⟩) _ 0 _ (Nat.zero_le _) rfl ⟨?_, hc.c13, ?_⟩
          · exact (((((Sc.rf h).wI rfl).wI rfl).wI rfl).wI rfl).wI rfl
          · exact ⟨by simp [sbH, wI_at], by simp [sbH, wI_at], by simp [sbH, wI_at]; rfl, by simp [sbH, wI_at], fun k hk => absurd hk (Nat.not_lt_zero k), hc.c13.2.2.2.2⟩
        ·
          refine g_iconst (v := -1) (pc' := 53) dX11_buying_52 rfl (by decide) ?_
          refine g_iret dX11_buying_53 rfl (by decide) (by decide) ?_
          have e : sBuying m (nI A) w0 x = (-1, m) := cif_f (fun z => c49 z.2.1)
          rw [e]
          exact ⟨rfl, hc, rfl⟩
    ·
      refine g_aload_n (pc' := 12) dX11_buying_11 rfl rfl ?_
      refine g_iload_n (pc' := 13) dX11_buying_12 rfl rfl ?_
      rcases Classical.em (∃ j : Nat, j < nK m ∧ x = nI j) with w13 | w13
      ·
        have k13 := w13
        obtain ⟨j, hj, rfl⟩ := k13
        refine g_invV (pc' := 16) (cx_kindAt hok hc hw hj) dX11_buying_13 rfl rfl ck_12 rfl ml_X11_119 im_X11_kindAt sl_X11_kindAt in_X11 co_X11_kindAt pd_X11_kindAt rfl (by omega) (by decide) ⟨by decide, by decide⟩ (Nat.le_of_ble_eq_true rfl) ?_
        rintro _ _ ⟨rfl, rfl⟩ -
        refine g_ifnull (pc' := 19) dX11_buying_16 rfl ?_
        refine g_iconstN (n := 1) (pc' := 20) dX11_buying_19 rfl ?_
        refine g_goto (tgt := 24) dX11_buying_20 (by decide) ?_
        refine g_istore (pc' := 26) dX11_buying_24 rfl (by decide) rfl ?_
        try simp only [List.set]
        refine g_iload (pc' := 28) dX11_buying_26 rfl rfl ?_
        refine g_if_eqN (tgt := 52) (pc' := 31) dX11_buying_28 rfl (by decide) (by decide) (fun q => False.elim (by revert q; decide)) (fun _ => ?_)
        refine g_iload_n (pc' := 32) dX11_buying_31 rfl rfl ?_
        refine g_iconstN (n := 0) (pc' := 33) dX11_buying_32 rfl ?_
        refine g_ldcw (pc' := 36) dX11_buying_33 rfl kc_X11_358 ?_
        refine g_invS (pc' := 39) (cx_within hok _ _ _) dX11_buying_36 rfl ml_X11_99 st_X11_within in_X11 co_X11_within pd_X11_within rfl (by omega) (by decide) ⟨by decide, by decide⟩ (Nat.le_of_ble_eq_true rfl) ?_
        rintro _ _ ⟨rfl, rfl⟩ -
        refine g_ifB_eq (tgt := 52) (pc' := 42) dX11_buying_39 rfl (by decide) (fun c39 => ?_) (fun c39 => ?_)
        ·
          refine g_iconst (v := -1) (pc' := 53) dX11_buying_52 rfl (by decide) ?_
          refine g_iret dX11_buying_53 rfl (by decide) (by decide) ?_
          have e : sBuying m a0 w0 (nI j) = (-1, m) := cif_f (fun z => c39 z.1)
          rw [e]
          exact ⟨rfl, hc, rfl⟩
        ·
          obtain ⟨A, hA6, rfl⟩ := rng (n := 60000) rfl (by decide) c39
          refine g_iload_n (pc' := 43) dX11_buying_42 rfl rfl ?_
          refine g_iconstN (n := 1) (pc' := 44) dX11_buying_43 rfl ?_
          refine g_bipushN (n := 99) (pc' := 46) dX11_buying_44 rfl (by decide) ?_
          refine g_invS (pc' := 49) (cx_within hok _ _ _) dX11_buying_46 rfl ml_X11_99 st_X11_within in_X11 co_X11_within pd_X11_within rfl (by omega) (by decide) ⟨by decide, by decide⟩ (Nat.le_of_ble_eq_true rfl) ?_
          rintro _ _ ⟨rfl, rfl⟩ -
          refine g_ifB_ne (tgt := 54) (pc' := 52) dX11_buying_49 rfl (by decide) (fun c49 => ?_) (fun c49 => ?_)
          ·
            obtain ⟨w, hw99, rfl⟩ := one_99 c49
            refine g_aload_n (pc' := 55) dX11_buying_54 rfl rfl ?_
            refine g_getS (pc' := 58) (k := 17) (b := (10, 0)) dX11_buying_55 rfl rfl ck_12 (by decide) fl_X11_77 rfl hs rfl ?_
            refine g_iload_n (pc' := 59) dX11_buying_58 rfl rfl ?_
            refine g_invV (pc' := 62) (cx_sbegin hok _) dX11_buying_59 rfl rfl ck_8 rfl ml_X11_359 im_X7_begin sl_X7_begin in_X7 co_X7_begin pd_X7_begin rfl (by omega) (by decide) ⟨by decide, by decide⟩ (Nat.le_of_ble_eq_true rfl) ?_
            rintro _ _ ⟨rfl, rfl⟩ -
            refine g_iconstN (n := 0) (pc' := 63) dX11_buying_62 rfl ?_
            refine g_istore (pc' := 65) dX11_buying_63 rfl (by decide) rfl ?_
            try simp only [List.set]
            have hxq : (nI j) = -1 ∨ (nI j) = nI 8 ∨ ∃ i : Nat, i < nK m ∧ (nI j) = nI i := Or.inr (Or.inr w13)
            have e : sBuying m (nI A) (nI w) (nI j) = (buA m w A (nI j), m) := by unfold sBuying; simp only [nI_clamp (show A < 2 ^ 31 by omega), nI_clamp (show w < 2 ^ 31 by omega)]; exact cif_t ⟨c39, c49, hxq⟩
            rw [e]
            refine G.drop 4 ?_
            simp only [List.set]
            refine lx_buying hok hc hw hx hA6 hw99.2 (nI j) hxq (Nat.le_refl _) (fun h1 s1 k13 => ⟨rfl, hc.sc s1 k13, s1.mo⟩) _ 0 _ (Nat.zero_le _) rfl ⟨?_, hc.c13, ?_⟩
            · exact (((((Sc.rf h).wI rfl).wI rfl).wI rfl).wI rfl).wI rfl
            · exact ⟨by simp [sbH, wI_at], by simp [sbH, wI_at], by simp [sbH, wI_at]; rfl, by simp [sbH, wI_at], fun k hk => absurd hk (Nat.not_lt_zero k), hc.c13.2.2.2.2⟩
          ·
            refine g_iconst (v := -1) (pc' := 53) dX11_buying_52 rfl (by decide) ?_
            refine g_iret dX11_buying_53 rfl (by decide) (by decide) ?_
            have e : sBuying m (nI A) w0 (nI j) = (-1, m) := cif_f (fun z => c49 z.2.1)
            rw [e]
            exact ⟨rfl, hc, rfl⟩
      ·
        refine g_invV (pc' := 16) (cx_kindAtN hok hc hw w13) dX11_buying_13 rfl rfl ck_12 rfl ml_X11_119 im_X11_kindAt sl_X11_kindAt in_X11 co_X11_kindAt pd_X11_kindAt rfl (by omega) (by decide) ⟨by decide, by decide⟩ (Nat.le_of_ble_eq_true rfl) ?_
        rintro _ _ ⟨rfl, rfl⟩ -
        refine g_ifnullN (tgt := 23) dX11_buying_16 (by decide) ?_
        refine g_iconstN (n := 0) (pc' := 24) dX11_buying_23 rfl ?_
        refine g_istore (pc' := 26) dX11_buying_24 rfl (by decide) rfl ?_
        try simp only [List.set]
        refine g_iload (pc' := 28) dX11_buying_26 rfl rfl ?_
        refine g_if_eqN (tgt := 52) (pc' := 31) dX11_buying_28 rfl (by decide) (by decide) (fun _ => ?_) (fun q => False.elim (by revert q; decide))
        refine g_iconst (v := -1) (pc' := 53) dX11_buying_52 rfl (by decide) ?_
        refine g_iret dX11_buying_53 rfl (by decide) (by decide) ?_
        have e : sBuying m a0 w0 x = (-1, m) := cif_f (fun z => z.2.2.elim c2 (fun z => z.elim c8 w13))
        rw [e]
        exact ⟨rfl, hc, rfl⟩
