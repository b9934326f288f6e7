theorem wN_s (h : Hp) (a : Ad) (b : Nat) (f : Nat → Int32) (n : Nat) : wN h a b f (n + 1) = wI (wN h a b f n) a (b + n) (f n) := rfl
set_option maxRecDepth 4000 in
theorem lm_toy {E : En} (hok : EOK E) {h h0 : Hp} {g : Hp} {m0 : St} {T k : Nat} (hsg : Shp g.2) (hT : T < 16) (hk : k < 8) (hg4 : g.1 MO 4 = nI T) (hgm : ∀ j, g.1 (113, 0) j = m0 113 j) (x2 : Int32) {d : Nat} (hd : 0 ≤ d) {Q : Option V → Hp → Prop} (hQ : Q (some (vI (nI T))) (wI (wN g (125, 0) (6 * T) (fun s => m0 113 (6 * k + s)) 6) MO 4 (nI (T + 1)))) : ∀ n s : Nat, s ≤ 6 → 6 - s = n → G E m_X12_toy d 0 0 Q h0 96 [some (vR MO), some (vI (nI k)), some (vI x2), some (vI (nI s))] [] ((wN g (125, 0) (6 * T) (fun s => m0 113 (6 * k + s)) s)) 0 0 := by
  intro n
  induction n with
  | zero =>
    intro s h1 h2
    have hs : Shp (wN g (125, 0) (6 * T) (fun s => m0 113 (6 * k + s)) s).2 := by rw [wN_2]; exact hsg
    refine g_iload_n (pc' := 97) dX12_toy_96 rfl rfl ?_
    refine g_bipushN (n := 6) (pc' := 99) dX12_toy_97 rfl (by decide) ?_
    refine g_icmp_geN (tgt := 133) (pc' := 102) dX12_toy_99 rfl (by decide) (by omega) (by omega) (fun c99 => ?_) (fun c99 => ?_)
    ·
      refine g_aload_n (pc' := 134) dX12_toy_133 rfl rfl ?_
      refine g_dup (pc' := 135) dX12_toy_134 rfl rfl ?_
      refine g_getIv (v := nI (T)) (pc' := 138) (k := 4) dX12_toy_135 rfl rfl ck_13 (by decide) fl_X12_211 rfl ((congrFun (wN_off g (125, 0) _ _ (c := MO) (by decide) s) 4).trans hg4) ?_
      refine g_iconstN (n := 1) (pc' := 139) dX12_toy_138 rfl ?_
      refine g_iaddN (pc' := 140) dX12_toy_139 rfl ?_
      refine g_putI (pc' := 143) (k := 4) dX12_toy_140 rfl rfl ck_13 (by decide) fl_X12_211 rfl rfl rfl rfl ?_
      refine g_aload_n (pc' := 144) dX12_toy_143 rfl rfl ?_
      refine g_getIv (v := nI ((T + 1))) (pc' := 147) (k := 4) dX12_toy_144 rfl rfl ck_13 (by decide) fl_X12_211 rfl (wI_same _ _ _ _) ?_
      refine g_iconstN (n := 1) (pc' := 148) dX12_toy_147 rfl ?_
      refine g_isubN (pc' := 149) dX12_toy_148 rfl (by omega) ?_
      refine g_iret dX12_toy_149 rfl (by decide) (by decide) ?_
      have e : s = 6 := by omega
      subst e
      exact hQ
    · exact absurd c99 (by omega)
  | succ n ih =>
    intro s h1 h2
    have hs : Shp (wN g (125, 0) (6 * T) (fun s => m0 113 (6 * k + s)) s).2 := by rw [wN_2]; exact hsg
    refine g_iload_n (pc' := 97) dX12_toy_96 rfl rfl ?_
    refine g_bipushN (n := 6) (pc' := 99) dX12_toy_97 rfl (by decide) ?_
    refine g_icmp_geN (tgt := 133) (pc' := 102) dX12_toy_99 rfl (by decide) (by omega) (by omega) (fun c99 => ?_) (fun c99 => ?_)
    · exact absurd c99 (by omega)
    ·
      refine g_aload_n (pc' := 103) dX12_toy_102 rfl rfl ?_
      refine g_getS (pc' := 106) (k := 25) (b := (125, 0)) dX12_toy_103 rfl rfl ck_13 (by decide) fl_X12_66 rfl hs rfl ?_
      refine g_bipushN (n := 6) (pc' := 108) dX12_toy_106 rfl (by decide) ?_
      refine g_aload_n (pc' := 109) dX12_toy_108 rfl rfl ?_
      refine g_getIv (v := nI (T)) (pc' := 112) (k := 4) dX12_toy_109 rfl rfl ck_13 (by decide) fl_X12_211 rfl ((congrFun (wN_off g (125, 0) _ _ (c := MO) (by decide) s) 4).trans hg4) ?_
      refine g_imulN (pc' := 113) dX12_toy_112 rfl ?_
      refine g_iload_n (pc' := 114) dX12_toy_113 rfl rfl ?_
      refine g_iaddN (pc' := 115) dX12_toy_114 rfl ?_
      refine g_aload_n (pc' := 116) dX12_toy_115 rfl rfl ?_
      refine g_getS (pc' := 119) (k := 13) (b := (113, 0)) dX12_toy_116 rfl rfl ck_13 (by decide) fl_X12_29 rfl hs rfl ?_
      refine g_bipushN (n := 6) (pc' := 121) dX12_toy_119 rfl (by decide) ?_
      refine g_iload_n (pc' := 122) dX12_toy_121 rfl rfl ?_
      refine g_imulN (pc' := 123) dX12_toy_122 rfl ?_
      refine g_iload_n (pc' := 124) dX12_toy_123 rfl rfl ?_
      refine g_iaddN (pc' := 125) dX12_toy_124 rfl ?_
      refine g_ialdN (pc' := 126) (v := m0 113 (6 * k + s)) dX12_toy_125 rfl rfl (by decide) (by omega) ((congrFun (wN_off g (125, 0) _ _ (c := (113, 0)) (by decide) s) _).trans (hgm _)) ?_
      refine g_iastN (pc' := 127) dX12_toy_126 rfl rfl (by decide) (by omega) ?_
      refine g_iincN (k := 1) (pc' := 130) dX12_toy_127 rfl rfl (by decide) rfl ?_
      try simp only [List.set]
      refine g_goto (tgt := 96) dX12_toy_130 (by decide) ?_
      exact ih (s + 1) (by omega) (by omega)
noncomputable def stToy (m : St) (k0 b : Int32) : St := stU (stU (stU (stU (stU (stU (m) 115 (nT m) (k0)) 116 (nT m) (b)) 118 (nT m) (0)) 119 (nT m) (-1)) 120 (nT m) (-1)) 123 (nT m) (m 1 2)
noncomputable def sToy (m : St) (k0 : Int32) (b : Int32) : Int32 × St := cif ((¬ nT m = 16) ∧ (∃ j : Nat, j < nK m ∧ k0 = nI j) ∧ (0 ≤ b ∧ b ≤ 99)) (nI (nT m), stU (stN (stToy m k0 b) 125 (6 * nT m) (fun s => m 113 (6 * k0.toNatClampNeg + s)) 6) 1 4 (nI (nT m + 1))) (-1, m)
set_option maxRecDepth 4000 in
theorem cm_toy {E : En} (hok : EOK E) {h : Hp} (hs : Shp h.2) (hw : Wf (mo h)) (k0 : Int32) (b : Int32) : Call E m_X12_toy 2 0 0 [vR MO, vI k0, vI b] h (fun r h' => r = some (vI (sToy (mo h) k0 b).1) ∧ mo h' = (sToy (mo h) k0 b).2 ∧ Mk h h') := by
  have hNw : h.1 MO 2 = nI (nW (mo h)) := hw.w.1
  have hNwb := hw.w.2
  have hC : h.1 MO 30 = nI (nC (mo h)) := hw.c.1
  have hCb := hw.c.2
  have hK : h.1 MO 3 = nI (nK (mo h)) := hw.k.1
  have hKb := hw.k.2
  have hT : h.1 MO 4 = nI (nT (mo h)) := hw.t.1
  have hTb := hw.t.2
  have hF : h.1 MO 5 = nI (nF (mo h)) := hw.f.1
  have hFb := hw.f.2
  have hRc : h.1 MO 59 = nI (nR (mo h)) := hw.r.1
  have hRb := hw.r.2
  have hG : h.1 MO 60 = nI (nGf (mo h)) := hw.g.1
  have hGb := hw.g.2
  have hA : h.1 MO 70 = nI (nA (mo h)) := hw.a.1
  have hAb := hw.a.2
  have hTl : h.1 MO 1 = nI (nTl (mo h)) := hw.tl.1
  have hTlb := hw.tl.2
  refine Call.enter hok (by decide) (Nat.le_of_ble_eq_true rfl) ?_
  show G E m_X12_toy 2 0 0 _ h 0 [some (vR MO), some (vI k0), some (vI b), none] [] h 0 0
  refine g_aload_n (pc' := 1) dX12_toy_0 rfl rfl ?_
  refine g_getIv (v := nI (nT (mo h))) (pc' := 4) (k := 4) dX12_toy_1 rfl rfl ck_13 (by decide) fl_X12_211 rfl (hT) ?_
  refine g_bipushN (n := 16) (pc' := 6) dX12_toy_4 rfl (by decide) ?_
  refine g_icmp_eqN (tgt := 29) (pc' := 9) dX12_toy_6 rfl (by decide) (by omega) (by omega) (fun c6 => ?_) (fun c6 => ?_)
  ·
    refine g_iconst (v := -1) (pc' := 30) dX12_toy_29 rfl (by decide) ?_
    refine g_iret dX12_toy_30 rfl (by decide) (by decide) ?_
    have e : sToy (mo h) k0 b = (-1, mo h) := by exact cif_f (by rintro ⟨z0, z1, z2⟩; contradiction)
    rw [e]
    exact ⟨rfl, rfl, Mk.rf h⟩
  ·
    refine g_aload_n (pc' := 10) dX12_toy_9 rfl rfl ?_
    refine g_iload_n (pc' := 11) dX12_toy_10 rfl rfl ?_
    refine g_invV (pc' := 14) (cm_isKind hok hw _) dX12_toy_11 rfl rfl ck_13 rfl ml_X12_230 im_X12_isKind sl_X12_isKind in_X12 co_X12_isKind pd_X12_isKind rfl (by omega) (by decide) ⟨by decide, by decide⟩ (Nat.le_of_ble_eq_true rfl) ?_
    rintro _ _ ⟨rfl, rfl⟩ -
    refine g_ifB_eq (tgt := 29) (pc' := 17) dX12_toy_14 rfl (by decide) (fun c14 => ?_) (fun c14 => ?_)
    ·
      refine g_iconst (v := -1) (pc' := 30) dX12_toy_29 rfl (by decide) ?_
      refine g_iret dX12_toy_30 rfl (by decide) (by decide) ?_
      have e : sToy (mo h) k0 b = (-1, mo h) := by exact cif_f (by rintro ⟨z0, z1, z2⟩; contradiction)
      rw [e]
      exact ⟨rfl, rfl, Mk.rf h⟩
    ·
      have k14 := c14
      obtain ⟨k, hk, rfl⟩ := k14
      refine g_iload_n (pc' := 18) dX12_toy_17 rfl rfl ?_
      refine g_i2l (pc' := 19) dX12_toy_18 rfl ?_
      refine g_lconst (v := 0) (pc' := 20) dX12_toy_19 rfl rfl ?_
      refine g_ldc2 (pc' := 23) dX12_toy_20 rfl kc_X12_241 ?_
      refine g_invS (pc' := 26) (c_liesI hok _ (0) (99) rfl (by decide) (by decide)) dX12_toy_23 rfl ml_X12_203 st_X12_lies in_X12 co_X12_lies pd_X12_lies rfl (by omega) (by decide) ⟨by decide, by decide⟩ (Nat.le_of_ble_eq_true rfl) ?_
      rintro _ _ ⟨rfl, rfl⟩ -
      refine g_ifB_ne (tgt := 31) (pc' := 29) dX12_toy_26 rfl (by decide) (fun c26 => ?_) (fun c26 => ?_)
      ·
        refine g_aload_n (pc' := 32) dX12_toy_31 rfl rfl ?_
        refine g_getS (pc' := 35) (k := 15) (b := (115, 0)) dX12_toy_32 rfl rfl ck_13 (by decide) fl_X12_35 rfl hs rfl ?_
        refine g_aload_n (pc' := 36) dX12_toy_35 rfl rfl ?_
        refine g_getIv (v := nI (nT (mo h))) (pc' := 39) (k := 4) dX12_toy_36 rfl rfl ck_13 (by decide) fl_X12_211 rfl (hT) ?_
        refine g_iload_n (pc' := 40) dX12_toy_39 rfl rfl ?_
        refine g_iastN (pc' := 41) dX12_toy_40 rfl rfl (by decide) (by omega) ?_
        refine g_aload_n (pc' := 42) dX12_toy_41 rfl rfl ?_
        refine g_getS (pc' := 45) (k := 16) (b := (116, 0)) dX12_toy_42 rfl rfl ck_13 (by decide) fl_X12_38 rfl hs rfl ?_
        refine g_aload_n (pc' := 46) dX12_toy_45 rfl rfl ?_
        refine g_getIv (v := nI (nT (mo h))) (pc' := 49) (k := 4) dX12_toy_46 rfl rfl ck_13 (by decide) fl_X12_211 rfl (hT) ?_
        refine g_iload_n (pc' := 50) dX12_toy_49 rfl rfl ?_
        refine g_iastN (pc' := 51) dX12_toy_50 rfl rfl (by decide) (by omega) ?_
        refine g_aload_n (pc' := 52) dX12_toy_51 rfl rfl ?_
        refine g_getS (pc' := 55) (k := 18) (b := (118, 0)) dX12_toy_52 rfl rfl ck_13 (by decide) fl_X12_44 rfl hs rfl ?_
        refine g_aload_n (pc' := 56) dX12_toy_55 rfl rfl ?_
        refine g_getIv (v := nI (nT (mo h))) (pc' := 59) (k := 4) dX12_toy_56 rfl rfl ck_13 (by decide) fl_X12_211 rfl (hT) ?_
        refine g_iconstN (n := 0) (pc' := 60) dX12_toy_59 rfl ?_
        refine g_iastN (pc' := 61) dX12_toy_60 rfl rfl (by decide) (by omega) ?_
        refine g_aload_n (pc' := 62) dX12_toy_61 rfl rfl ?_
        refine g_getS (pc' := 65) (k := 19) (b := (119, 0)) dX12_toy_62 rfl rfl ck_13 (by decide) fl_X12_47 rfl hs rfl ?_
        refine g_aload_n (pc' := 66) dX12_toy_65 rfl rfl ?_
        refine g_getIv (v := nI (nT (mo h))) (pc' := 69) (k := 4) dX12_toy_66 rfl rfl ck_13 (by decide) fl_X12_211 rfl (hT) ?_
        refine g_iconst (v := -1) (pc' := 70) dX12_toy_69 rfl (by decide) ?_
        refine g_iastN (pc' := 71) dX12_toy_70 rfl rfl (by decide) (by omega) ?_
        refine g_aload_n (pc' := 72) dX12_toy_71 rfl rfl ?_
        refine g_getS (pc' := 75) (k := 20) (b := (120, 0)) dX12_toy_72 rfl rfl ck_13 (by decide) fl_X12_50 rfl hs rfl ?_
        refine g_aload_n (pc' := 76) dX12_toy_75 rfl rfl ?_
        refine g_getIv (v := nI (nT (mo h))) (pc' := 79) (k := 4) dX12_toy_76 rfl rfl ck_13 (by decide) fl_X12_211 rfl (hT) ?_
        refine g_iconst (v := -1) (pc' := 80) dX12_toy_79 rfl (by decide) ?_
        refine g_iastN (pc' := 81) dX12_toy_80 rfl rfl (by decide) (by omega) ?_
        refine g_aload_n (pc' := 82) dX12_toy_81 rfl rfl ?_
        refine g_getS (pc' := 85) (k := 23) (b := (123, 0)) dX12_toy_82 rfl rfl ck_13 (by decide) fl_X12_59 rfl hs rfl ?_
        refine g_aload_n (pc' := 86) dX12_toy_85 rfl rfl ?_
        refine g_getIv (v := nI (nT (mo h))) (pc' := 89) (k := 4) dX12_toy_86 rfl rfl ck_13 (by decide) fl_X12_211 rfl (hT) ?_
        refine g_aload_n (pc' := 90) dX12_toy_89 rfl rfl ?_
        refine g_getI (pc' := 93) (k := 2) dX12_toy_90 rfl rfl ck_13 (by decide) fl_X12_219 rfl ?_
        refine g_iastN (pc' := 94) dX12_toy_93 rfl rfl (by decide) (by omega) ?_
        refine g_iconstN (n := 0) (pc' := 95) dX12_toy_94 rfl ?_
        refine g_istore_n (pc' := 96) dX12_toy_95 rfl (by decide) rfl ?_
        try simp only [List.set]
        refine lm_toy (g := wI (wI (wI (wI (wI (wI (h) (115, 0) (nT (mo h)) (nI k)) (116, 0) (nT (mo h)) (b)) (118, 0) (nT (mo h)) (nI 0)) (119, 0) (nT (mo h)) (-1)) (120, 0) (nT (mo h)) (-1)) (123, 0) (nT (mo h)) (h.1 MO 2)) hok (h := h) (m0 := mo h) (T := nT (mo h)) (k := k) hs (by omega) (by omega) hT (fun _ => rfl) b (Nat.zero_le _) ?_ _ 0 (Nat.zero_le _) rfl
        have e : sToy (mo h) (nI k) b = (nI (nT (mo h)), stU (stN (stToy (mo h) (nI k) b) 125 (6 * nT (mo h)) (fun s => mo h 113 (6 * k + s)) 6) 1 4 (nI (nT (mo h) + 1))) := by unfold sToy; simp only [nI_clamp (show k < 2 ^ 31 by omega)]; exact cif_t ⟨c6, c14, c26⟩
        rw [e]
        refine ⟨rfl, ?_, (Mk.n (((((((Mk.rf h).w (Or.inr (by decide))).w (Or.inr (by decide))).w (Or.inr (by decide))).w (Or.inr (by decide))).w (Or.inr (by decide))).w (Or.inr (by decide))) (Or.inr (by decide)) 6).w (Or.inl rfl)⟩
        rw [mo_wF (j := 4) rfl, mo_wN (s := 125) rfl, mo_wI (s := 123) rfl, mo_wI (s := 120) rfl, mo_wI (s := 119) rfl, mo_wI (s := 118) rfl, mo_wI (s := 116) rfl, mo_wI (s := 115) rfl]
        rfl
      ·
        refine g_iconst (v := -1) (pc' := 30) dX12_toy_29 rfl (by decide) ?_
        refine g_iret dX12_toy_30 rfl (by decide) (by decide) ?_
        have e : sToy (mo h) (nI k) b = (-1, mo h) := by unfold sToy; simp only [nI_clamp (show k < 2 ^ 31 by omega)]; exact cif_f (by rintro ⟨z0, z1, z2⟩; contradiction)
        rw [e]
        exact ⟨rfl, rfl, Mk.rf h⟩
set_option maxRecDepth 4000 in
theorem lm_mend {E : En} (hok : EOK E) {h h0 : Hp} (hsg : Shp h.2) (hw : Wf (mo h)) {t : Nat} (ht : t < nT (mo h)) (x2 : Int32) {d : Nat} (hd : 0 ≤ d) {Q : Option V → Hp → Prop} (hQ : Q (some (vI x2)) (wN h (125, 0) (6 * t) (fun s => mo h 113 (6 * kd (mo h) t + s)) 6)) : ∀ n s : Nat, s ≤ 6 → 6 - s = n → G E m_X12_mend d 0 0 Q h0 26 [some (vR MO), some (vI (nI t)), some (vI x2), some (vI (nI s))] [] ((wN h (125, 0) (6 * t) (fun s => mo h 113 (6 * kd (mo h) t + s)) s)) 0 0 := by
  have hNw : h.1 MO 2 = nI (nW (mo h)) := hw.w.1
  have hNwb := hw.w.2
  have hC : h.1 MO 30 = nI (nC (mo h)) := hw.c.1
  have hCb := hw.c.2
  have hK : h.1 MO 3 = nI (nK (mo h)) := hw.k.1
  have hKb := hw.k.2
  have hT : h.1 MO 4 = nI (nT (mo h)) := hw.t.1
  have hTb := hw.t.2
  have hF : h.1 MO 5 = nI (nF (mo h)) := hw.f.1
  have hFb := hw.f.2
  have hRc : h.1 MO 59 = nI (nR (mo h)) := hw.r.1
  have hRb := hw.r.2
  have hG : h.1 MO 60 = nI (nGf (mo h)) := hw.g.1
  have hGb := hw.g.2
  have hA : h.1 MO 70 = nI (nA (mo h)) := hw.a.1
  have hAb := hw.a.2
  have hTl : h.1 MO 1 = nI (nTl (mo h)) := hw.tl.1
  have hTlb := hw.tl.2
  have hkd := (hw.kd ht).2
  intro n
  induction n with
  | zero =>
    intro s h1 h2
    have hs : Shp (wN h (125, 0) (6 * t) (fun s => mo h 113 (6 * kd (mo h) t + s)) s).2 := by rw [wN_2]; exact hsg
    refine g_iload_n (pc' := 27) dX12_mend_26 rfl rfl ?_
    refine g_bipushN (n := 6) (pc' := 29) dX12_mend_27 rfl (by decide) ?_
    refine g_icmp_geN (tgt := 65) (pc' := 32) dX12_mend_29 rfl (by decide) (by omega) (by omega) (fun c29 => ?_) (fun c29 => ?_)
    ·
      refine g_iload_n (pc' := 66) dX12_mend_65 rfl rfl ?_
      refine g_iret dX12_mend_66 rfl (by decide) (by decide) ?_
      have e : s = 6 := by omega
      subst e
      exact hQ
    · exact absurd c29 (by omega)
  | succ n ih =>
    intro s h1 h2
    have hs : Shp (wN h (125, 0) (6 * t) (fun s => mo h 113 (6 * kd (mo h) t + s)) s).2 := by rw [wN_2]; exact hsg
    refine g_iload_n (pc' := 27) dX12_mend_26 rfl rfl ?_
    refine g_bipushN (n := 6) (pc' := 29) dX12_mend_27 rfl (by decide) ?_
    refine g_icmp_geN (tgt := 65) (pc' := 32) dX12_mend_29 rfl (by decide) (by omega) (by omega) (fun c29 => ?_) (fun c29 => ?_)
    · exact absurd c29 (by omega)
    ·
      refine g_aload_n (pc' := 33) dX12_mend_32 rfl rfl ?_
      refine g_getS (pc' := 36) (k := 25) (b := (125, 0)) dX12_mend_33 rfl rfl ck_13 (by decide) fl_X12_66 rfl hs rfl ?_
      refine g_bipushN (n := 6) (pc' := 38) dX12_mend_36 rfl (by decide) ?_
      refine g_iload_n (pc' := 39) dX12_mend_38 rfl rfl ?_
      refine g_imulN (pc' := 40) dX12_mend_39 rfl ?_
      refine g_iload_n (pc' := 41) dX12_mend_40 rfl rfl ?_
      refine g_iaddN (pc' := 42) dX12_mend_41 rfl ?_
      refine g_aload_n (pc' := 43) dX12_mend_42 rfl rfl ?_
      refine g_getS (pc' := 46) (k := 13) (b := (113, 0)) dX12_mend_43 rfl rfl ck_13 (by decide) fl_X12_29 rfl hs rfl ?_
      refine g_bipushN (n := 6) (pc' := 48) dX12_mend_46 rfl (by decide) ?_
      refine g_aload_n (pc' := 49) dX12_mend_48 rfl rfl ?_
      refine g_getS (pc' := 52) (k := 15) (b := (115, 0)) dX12_mend_49 rfl rfl ck_13 (by decide) fl_X12_35 rfl hs rfl ?_
      refine g_iload_n (pc' := 53) dX12_mend_52 rfl rfl ?_
      refine g_ialdN (pc' := 54) (v := nI (kd (mo h) t)) dX12_mend_53 rfl rfl (by decide) (by omega) ((congrFun (wN_off h (125, 0) _ _ (c := (115, 0)) (by decide) s) _).trans (hw.kd ht).1) ?_
      refine g_imulN (pc' := 55) dX12_mend_54 rfl ?_
      refine g_iload_n (pc' := 56) dX12_mend_55 rfl rfl ?_
      refine g_iaddN (pc' := 57) dX12_mend_56 rfl ?_
      refine g_ialdN (pc' := 58) (v := mo h 113 (6 * kd (mo h) t + s)) dX12_mend_57 rfl rfl (by decide) (by omega) (congrFun (wN_off h (125, 0) _ _ (c := (113, 0)) (by decide) s) _) ?_
      refine g_iastN (pc' := 59) dX12_mend_58 rfl rfl (by decide) (by omega) ?_
      refine g_iincN (k := 1) (pc' := 62) dX12_mend_59 rfl rfl (by decide) rfl ?_
      try simp only [List.set]
      refine g_goto (tgt := 26) dX12_mend_62 (by decide) ?_
      exact ih (s + 1) (by omega) (by omega)
noncomputable def sMend (m : St) (t0 : Int32) : Int32 × St := cif ((∃ j : Nat, j < nT m ∧ t0 = nI j) ∧ (m 118 t0.toNatClampNeg = 0 ∧ 0 < lck m t0.toNatClampNeg)) (lck m t0.toNatClampNeg, stN m 125 (6 * t0.toNatClampNeg) (fun s => m 113 (6 * kd m t0.toNatClampNeg + s)) 6) (-1, m)
set_option maxRecDepth 4000 in
theorem cm_mend {E : En} (hok : EOK E) {h : Hp} (hs : Shp h.2) (hw : Wf (mo h)) (t0 : Int32) : Call E m_X12_mend 2 0 0 [vR MO, vI t0] h (fun r h' => r = some (vI (sMend (mo h) t0).1) ∧ mo h' = (sMend (mo h) t0).2 ∧ Mk h h') := by
  have hNw : h.1 MO 2 = nI (nW (mo h)) := hw.w.1
  have hNwb := hw.w.2
  have hC : h.1 MO 30 = nI (nC (mo h)) := hw.c.1
  have hCb := hw.c.2
  have hK : h.1 MO 3 = nI (nK (mo h)) := hw.k.1
  have hKb := hw.k.2
  have hT : h.1 MO 4 = nI (nT (mo h)) := hw.t.1
  have hTb := hw.t.2
  have hF : h.1 MO 5 = nI (nF (mo h)) := hw.f.1
  have hFb := hw.f.2
  have hRc : h.1 MO 59 = nI (nR (mo h)) := hw.r.1
  have hRb := hw.r.2
  have hG : h.1 MO 60 = nI (nGf (mo h)) := hw.g.1
  have hGb := hw.g.2
  have hA : h.1 MO 70 = nI (nA (mo h)) := hw.a.1
  have hAb := hw.a.2
  have hTl : h.1 MO 1 = nI (nTl (mo h)) := hw.tl.1
  have hTlb := hw.tl.2
  refine Call.enter hok (by decide) (Nat.le_of_ble_eq_true rfl) ?_
  show G E m_X12_mend 2 0 0 _ h 0 [some (vR MO), some (vI t0), none, none] [] h 0 0
  refine g_aload_n (pc' := 1) dX12_mend_0 rfl rfl ?_
  refine g_iload_n (pc' := 2) dX12_mend_1 rfl rfl ?_
  refine g_invV (pc' := 5) (cm_isToy hok hw _) dX12_mend_2 rfl rfl ck_13 rfl ml_X12_443 im_X12_isToy sl_X12_isToy in_X12 co_X12_isToy pd_X12_isToy rfl (by omega) (by decide) ⟨by decide, by decide⟩ (Nat.le_of_ble_eq_true rfl) ?_
  rintro _ _ ⟨rfl, rfl⟩ -
  refine g_ifB_eq (tgt := 16) (pc' := 8) dX12_mend_5 rfl (by decide) (fun c5 => ?_) (fun c5 => ?_)
  ·
    refine g_iconst (v := -1) (pc' := 17) dX12_mend_16 rfl (by decide) ?_
    refine g_iret dX12_mend_17 rfl (by decide) (by decide) ?_
    have e : sMend (mo h) t0 = (-1, mo h) := by exact cif_f (by rintro ⟨z0, z1⟩; contradiction)
    rw [e]
    exact ⟨rfl, rfl, Mk.rf h⟩
  ·
    have k5 := c5
    obtain ⟨t, ht, rfl⟩ := k5
    refine g_aload_n (pc' := 9) dX12_mend_8 rfl rfl ?_
    refine g_iload_n (pc' := 10) dX12_mend_9 rfl rfl ?_
    refine g_invV (pc' := 13) (cm_canMend hok hs hw (t := t) (by omega)) dX12_mend_10 rfl rfl ck_13 rfl ml_X12_541 im_X12_canMend sl_X12_canMend in_X12 co_X12_canMend pd_X12_canMend rfl (by omega) (by decide) ⟨by decide, by decide⟩ (Nat.le_of_ble_eq_true rfl) ?_
    rintro _ _ ⟨rfl, rfl⟩ -
    refine g_ifB_ne (tgt := 18) (pc' := 16) dX12_mend_13 rfl (by decide) (fun c13 => ?_) (fun c13 => ?_)
    ·
      refine g_aload_n (pc' := 19) dX12_mend_18 rfl rfl ?_
      refine g_iload_n (pc' := 20) dX12_mend_19 rfl rfl ?_
      refine g_invV (pc' := 23) (cm_lackingOf hok hs hw (t := t) (by omega)) dX12_mend_20 rfl rfl ck_13 rfl ml_X12_390 im_X12_lackingOf sl_X12_lackingOf in_X12 co_X12_lackingOf pd_X12_lackingOf rfl (by omega) (by decide) ⟨by decide, by decide⟩ (Nat.le_of_ble_eq_true rfl) ?_
      rintro _ _ ⟨rfl, rfl⟩ -
      refine g_istore_n (pc' := 24) dX12_mend_23 rfl (by decide) rfl ?_
      try simp only [List.set]
      refine g_iconstN (n := 0) (pc' := 25) dX12_mend_24 rfl ?_
      refine g_istore_n (pc' := 26) dX12_mend_25 rfl (by decide) rfl ?_
      try simp only [List.set]
      refine lm_mend hok hs hw ht _ (Nat.zero_le _) ?_ _ 0 (Nat.zero_le _) rfl
      have e : sMend (mo h) (nI t) = (lck (mo h) t, stN (mo h) 125 (6 * t) (fun s => mo h 113 (6 * kd (mo h) t + s)) 6) := by unfold sMend; simp only [nI_clamp (show t < 2 ^ 31 by omega)]; exact cif_t ⟨c5, c13⟩
      rw [e]
      exact ⟨rfl, mo_wN rfl 6, (Mk.rf h).n (Or.inr (by decide)) 6⟩
    ·
      refine g_iconst (v := -1) (pc' := 17) dX12_mend_16 rfl (by decide) ?_
      refine g_iret dX12_mend_17 rfl (by decide) (by decide) ?_
      have e : sMend (mo h) (nI t) = (-1, mo h) := by unfold sMend; simp only [nI_clamp (show t < 2 ^ 31 by omega)]; exact cif_f (by rintro ⟨z0, z1⟩; contradiction)
      rw [e]
      exact ⟨rfl, rfl, Mk.rf h⟩
/-- the last act that was known -/
noncomputable def whr (m : St) (t : Nat) (x y : Int32) : Nat → Int32
  | 0 => 0
  | n + 1 => cif (m 172 n = nI t ∧ m 174 n ≤ x ∧ m 175 n ≤ y) (m 173 n) (whr m t x y n)
theorem whr_s (m : St) (t : Nat) (x y : Int32) (n : Nat) : whr m t x y (n + 1) = cif (m 172 n = nI t ∧ m 174 n ≤ x ∧ m 175 n ≤ y) (m 173 n) (whr m t x y n) := rfl
set_option maxRecDepth 4000 in
theorem lm_where {E : En} (hok : EOK E) {h h0 : Hp} (hs : Shp h.2) (hw : Wf (mo h)) {t : Nat} (ht : t < nT (mo h)) (x y : Int32) {d : Nat} (hd : 0 ≤ d) {Q : Option V → Hp → Prop} (hQ : Q (some (vI (whr (mo h) t x y (nA (mo h))))) h) : ∀ n i : Nat, i ≤ nA (mo h) → nA (mo h) - i = n → G E m_X12_where d 0 0 Q h0 43 [some (vR MO), some (vI (nI t)), some (vI x), some (vI y), some (vI (whr (mo h) t x y i)), some (vI (nI i))] [] (h) 0 0 := by
  have hNw : h.1 MO 2 = nI (nW (mo h)) := hw.w.1
  have hNwb := hw.w.2
  have hC : h.1 MO 30 = nI (nC (mo h)) := hw.c.1
  have hCb := hw.c.2
  have hK : h.1 MO 3 = nI (nK (mo h)) := hw.k.1
  have hKb := hw.k.2
  have hT : h.1 MO 4 = nI (nT (mo h)) := hw.t.1
  have hTb := hw.t.2
  have hF : h.1 MO 5 = nI (nF (mo h)) := hw.f.1
  have hFb := hw.f.2
  have hRc : h.1 MO 59 = nI (nR (mo h)) := hw.r.1
  have hRb := hw.r.2
  have hG : h.1 MO 60 = nI (nGf (mo h)) := hw.g.1
  have hGb := hw.g.2
  have hA : h.1 MO 70 = nI (nA (mo h)) := hw.a.1
  have hAb := hw.a.2
  have hTl : h.1 MO 1 = nI (nTl (mo h)) := hw.tl.1
  have hTlb := hw.tl.2
  intro n
  induction n with
  | zero =>
    intro i h1 h2
    refine g_iload (pc' := 45) dX12_where_43 rfl rfl ?_
    refine g_aload_n (pc' := 46) dX12_where_45 rfl rfl ?_
    refine g_getIv (v := nI (nA (mo h))) (pc' := 49) (k := 70) dX12_where_46 rfl rfl ck_13 (by decide) fl_X12_449 rfl (hA) ?_
    refine g_icmp_geN (tgt := 100) (pc' := 52) dX12_where_49 rfl (by decide) (by omega) (by omega) (fun c49 => ?_) (fun c49 => ?_)
    ·
      refine g_iload (pc' := 102) dX12_where_100 rfl rfl ?_
      refine g_iret dX12_where_102 rfl (by decide) (by decide) ?_
      have e : i = nA (mo h) := by omega
      subst e
      exact hQ
    · exact absurd c49 (by omega)
  | succ n ih =>
    intro i h1 h2
    refine g_iload (pc' := 45) dX12_where_43 rfl rfl ?_
    refine g_aload_n (pc' := 46) dX12_where_45 rfl rfl ?_
    refine g_getIv (v := nI (nA (mo h))) (pc' := 49) (k := 70) dX12_where_46 rfl rfl ck_13 (by decide) fl_X12_449 rfl (hA) ?_
    refine g_icmp_geN (tgt := 100) (pc' := 52) dX12_where_49 rfl (by decide) (by omega) (by omega) (fun c49 => ?_) (fun c49 => ?_)
    · exact absurd c49 (by omega)
    ·
      refine g_aload_n (pc' := 53) dX12_where_52 rfl rfl ?_
      refine g_getS (pc' := 56) (k := 72) (b := (172, 0)) dX12_where_53 rfl rfl ck_13 (by decide) fl_X12_153 rfl hs rfl ?_
      refine g_iload (pc' := 58) dX12_where_56 rfl rfl ?_
      refine g_ialdN (pc' := 59) (v := _) dX12_where_58 rfl rfl (by decide) (by omega) (rfl) ?_
      refine g_iload_n (pc' := 60) dX12_where_59 rfl rfl ?_
      refine g_icmp_ne (tgt := 94) (pc' := 63) dX12_where_60 rfl (by decide) (fun c60 => ?_) (fun c60 => ?_)
      ·
        refine g_iincN (k := 1) (pc' := 97) dX12_where_94 rfl rfl (by decide) rfl ?_
        try simp only [List.set]
        refine g_goto (tgt := 43) dX12_where_97 (by decide) ?_
        have q := ih (i + 1) (by omega) (by omega)
        rw [whr_s] at q
        have e : cif (mo h 172 i = nI t ∧ mo h 174 i ≤ x ∧ mo h 175 i ≤ y) (mo h 173 i) (whr (mo h) t x y i) = _ := cif_f (fun z => c60 z.1)
        rw [e] at q
        exact q
      ·
        refine g_aload_n (pc' := 64) dX12_where_63 rfl rfl ?_
        refine g_getS (pc' := 67) (k := 74) (b := (174, 0)) dX12_where_64 rfl rfl ck_13 (by decide) fl_X12_159 rfl hs rfl ?_
        refine g_iload (pc' := 69) dX12_where_67 rfl rfl ?_
        refine g_ialdN (pc' := 70) (v := _) dX12_where_69 rfl rfl (by decide) (by omega) (rfl) ?_
        refine g_iload_n (pc' := 71) dX12_where_70 rfl rfl ?_
        refine g_icmp_gt (tgt := 94) (pc' := 74) dX12_where_71 rfl (by decide) (fun c71 => ?_) (fun c71 => ?_)
        ·
          refine g_iincN (k := 1) (pc' := 97) dX12_where_94 rfl rfl (by decide) rfl ?_
          try simp only [List.set]
          refine g_goto (tgt := 43) dX12_where_97 (by decide) ?_
          have q := ih (i + 1) (by omega) (by omega)
          rw [whr_s] at q
          have e : cif (mo h 172 i = nI t ∧ mo h 174 i ≤ x ∧ mo h 175 i ≤ y) (mo h 173 i) (whr (mo h) t x y i) = _ := cif_f (fun z => absurd z.2.1 (Int32.not_le.mpr c71))
          rw [e] at q
          exact q
        ·
          refine g_aload_n (pc' := 75) dX12_where_74 rfl rfl ?_
          refine g_getS (pc' := 78) (k := 75) (b := (175, 0)) dX12_where_75 rfl rfl ck_13 (by decide) fl_X12_162 rfl hs rfl ?_
          refine g_iload (pc' := 80) dX12_where_78 rfl rfl ?_
          refine g_ialdN (pc' := 81) (v := _) dX12_where_80 rfl rfl (by decide) (by omega) (rfl) ?_
          refine g_iload_n (pc' := 82) dX12_where_81 rfl rfl ?_
          refine g_icmp_gt (tgt := 94) (pc' := 85) dX12_where_82 rfl (by decide) (fun c82 => ?_) (fun c82 => ?_)
          ·
            refine g_iincN (k := 1) (pc' := 97) dX12_where_94 rfl rfl (by decide) rfl ?_
            try simp only [List.set]
            refine g_goto (tgt := 43) dX12_where_97 (by decide) ?_
            have q := ih (i + 1) (by omega) (by omega)
            rw [whr_s] at q
            have e : cif (mo h 172 i = nI t ∧ mo h 174 i ≤ x ∧ mo h 175 i ≤ y) (mo h 173 i) (whr (mo h) t x y i) = _ := cif_f (fun z => absurd z.2.2 (Int32.not_le.mpr c82))
            rw [e] at q
            exact q
          ·
            refine g_aload_n (pc' := 86) dX12_where_85 rfl rfl ?_
            refine g_getS (pc' := 89) (k := 73) (b := (173, 0)) dX12_where_86 rfl rfl ck_13 (by decide) fl_X12_156 rfl hs rfl ?_
            refine g_iload (pc' := 91) dX12_where_89 rfl rfl ?_
            refine g_ialdN (pc' := 92) (v := _) dX12_where_91 rfl rfl (by decide) (by omega) (rfl) ?_
            refine g_istore (pc' := 94) dX12_where_92 rfl (by decide) rfl ?_
            try simp only [List.set]
            refine g_iincN (k := 1) (pc' := 97) dX12_where_94 rfl rfl (by decide) rfl ?_
            try simp only [List.set]
            refine g_goto (tgt := 43) dX12_where_97 (by decide) ?_
            have q := ih (i + 1) (by omega) (by omega)
            rw [whr_s] at q
            have e : cif (mo h 172 i = nI t ∧ mo h 174 i ≤ x ∧ mo h 175 i ≤ y) (mo h 173 i) (whr (mo h) t x y i) = _ := cif_t ⟨c60, Int32.not_lt.mp c71, Int32.not_lt.mp c82⟩
            rw [e] at q
            exact q
noncomputable def sWhere (m : St) (t0 : Int32) (x : Int32) (y : Int32) : Int32 × St := cif ((∃ j : Nat, j < nT m ∧ t0 = nI j) ∧ (0 ≤ x ∧ x ≤ m 1 2) ∧ (x ≤ y ∧ y ≤ 699)) (whr m t0.toNatClampNeg x y (nA m), m) (-1, m)
set_option maxRecDepth 4000 in
theorem cm_where {E : En} (hok : EOK E) {h : Hp} (hs : Shp h.2) (hw : Wf (mo h)) (t0 : Int32) (x : Int32) (y : Int32) : Call E m_X12_where 2 0 0 [vR MO, vI t0, vI x, vI y] h (fun r h' => r = some (vI (sWhere (mo h) t0 x y).1) ∧ mo h' = (sWhere (mo h) t0 x y).2 ∧ Mk h h') := by
  have hNw : h.1 MO 2 = nI (nW (mo h)) := hw.w.1
  have hNwb := hw.w.2
  have hC : h.1 MO 30 = nI (nC (mo h)) := hw.c.1
  have hCb := hw.c.2
  have hK : h.1 MO 3 = nI (nK (mo h)) := hw.k.1
  have hKb := hw.k.2
  have hT : h.1 MO 4 = nI (nT (mo h)) := hw.t.1
  have hTb := hw.t.2
  have hF : h.1 MO 5 = nI (nF (mo h)) := hw.f.1
  have hFb := hw.f.2
  have hRc : h.1 MO 59 = nI (nR (mo h)) := hw.r.1
  have hRb := hw.r.2
  have hG : h.1 MO 60 = nI (nGf (mo h)) := hw.g.1
  have hGb := hw.g.2
  have hA : h.1 MO 70 = nI (nA (mo h)) := hw.a.1
  have hAb := hw.a.2
  have hTl : h.1 MO 1 = nI (nTl (mo h)) := hw.tl.1
  have hTlb := hw.tl.2
  refine Call.enter hok (by decide) (Nat.le_of_ble_eq_true rfl) ?_
  show G E m_X12_where 2 0 0 _ h 0 [some (vR MO), some (vI t0), some (vI x), some (vI y), none, none] [] h 0 0
  refine g_aload_n (pc' := 1) dX12_where_0 rfl rfl ?_
  refine g_iload_n (pc' := 2) dX12_where_1 rfl rfl ?_
  refine g_invV (pc' := 5) (cm_isToy hok hw _) dX12_where_2 rfl rfl ck_13 rfl ml_X12_443 im_X12_isToy sl_X12_isToy in_X12 co_X12_isToy pd_X12_isToy rfl (by omega) (by decide) ⟨by decide, by decide⟩ (Nat.le_of_ble_eq_true rfl) ?_
  rintro _ _ ⟨rfl, rfl⟩ -
  refine g_ifB_eq (tgt := 35) (pc' := 8) dX12_where_5 rfl (by decide) (fun c5 => ?_) (fun c5 => ?_)
  ·
    refine g_iconst (v := -1) (pc' := 36) dX12_where_35 rfl (by decide) ?_
    refine g_iret dX12_where_36 rfl (by decide) (by decide) ?_
    have e : sWhere (mo h) t0 x y = (-1, mo h) := by exact cif_f (by rintro ⟨z0, z1, z2⟩; contradiction)
    rw [e]
    exact ⟨rfl, rfl, Mk.rf h⟩
  ·
    have k5 := c5
    obtain ⟨t, ht, rfl⟩ := k5
    refine g_iload_n (pc' := 9) dX12_where_8 rfl rfl ?_
    refine g_i2l (pc' := 10) dX12_where_9 rfl ?_
    refine g_lconst (v := 0) (pc' := 11) dX12_where_10 rfl rfl ?_
    refine g_aload_n (pc' := 12) dX12_where_11 rfl rfl ?_
    refine g_getI (pc' := 15) (k := 2) dX12_where_12 rfl rfl ck_13 (by decide) fl_X12_219 rfl ?_
    refine g_i2l (pc' := 16) dX12_where_15 rfl ?_
    refine g_invS (pc' := 19) (c_liesI hok _ (0) _ rfl (by decide) rfl) dX12_where_16 rfl ml_X12_203 st_X12_lies in_X12 co_X12_lies pd_X12_lies rfl (by omega) (by decide) ⟨by decide, by decide⟩ (Nat.le_of_ble_eq_true rfl) ?_
    rintro _ _ ⟨rfl, rfl⟩ -
    refine g_ifB_eq (tgt := 35) (pc' := 22) dX12_where_19 rfl (by decide) (fun c19 => ?_) (fun c19 => ?_)
    ·
      refine g_iconst (v := -1) (pc' := 36) dX12_where_35 rfl (by decide) ?_
      refine g_iret dX12_where_36 rfl (by decide) (by decide) ?_
      have e : sWhere (mo h) (nI t) x y = (-1, mo h) := by unfold sWhere; simp only [nI_clamp (show t < 2 ^ 31 by omega)]; exact cif_f (by rintro ⟨z0, z1, z2⟩; contradiction)
      rw [e]
      exact ⟨rfl, rfl, Mk.rf h⟩
    ·
      refine g_iload_n (pc' := 23) dX12_where_22 rfl rfl ?_
      refine g_i2l (pc' := 24) dX12_where_23 rfl ?_
      refine g_iload_n (pc' := 25) dX12_where_24 rfl rfl ?_
      refine g_i2l (pc' := 26) dX12_where_25 rfl ?_
      refine g_ldc2 (pc' := 29) dX12_where_26 rfl kc_X12_201 ?_
      refine g_invS (pc' := 32) (c_liesI hok _ _ (699) rfl rfl (by decide)) dX12_where_29 rfl ml_X12_203 st_X12_lies in_X12 co_X12_lies pd_X12_lies rfl (by omega) (by decide) ⟨by decide, by decide⟩ (Nat.le_of_ble_eq_true rfl) ?_
      rintro _ _ ⟨rfl, rfl⟩ -
      refine g_ifB_ne (tgt := 37) (pc' := 35) dX12_where_32 rfl (by decide) (fun c32 => ?_) (fun c32 => ?_)
      ·
        refine g_iconst (v := 0) (pc' := 38) dX12_where_37 rfl (by decide) ?_
        refine g_istore (pc' := 40) dX12_where_38 rfl (by decide) rfl ?_
        try simp only [List.set]
        refine g_iconstN (n := 0) (pc' := 41) dX12_where_40 rfl ?_
        refine g_istore (pc' := 43) dX12_where_41 rfl (by decide) rfl ?_
        try simp only [List.set]
        refine lm_where hok hs hw ht x y (Nat.zero_le _) ?_ _ 0 (Nat.zero_le _) rfl
        have e : sWhere (mo h) (nI t) x y = (whr (mo h) t x y (nA (mo h)), mo h) := by unfold sWhere; simp only [nI_clamp (show t < 2 ^ 31 by omega)]; exact cif_t ⟨c5, c19, c32⟩
        rw [e]
        exact ⟨rfl, rfl, Mk.rf h⟩
      ·
        refine g_iconst (v := -1) (pc' := 36) dX12_where_35 rfl (by decide) ?_
        refine g_iret dX12_where_36 rfl (by decide) (by decide) ?_
        have e : sWhere (mo h) (nI t) x y = (-1, mo h) := by unfold sWhere; simp only [nI_clamp (show t < 2 ^ 31 by omega)]; exact cif_f (by rintro ⟨z0, z1, z2⟩; contradiction)
        rw [e]
        exact ⟨rfl, rfl, Mk.rf h⟩
theorem sub_iff {x : Int32} {n c : Nat} (hn : n < 1000) (hc : c < 1000) : (∃ j : Nat, j < n ∧ x - nI c = nI j) ↔ ∃ j : Nat, j < n ∧ x = nI (c + j) := by
  constructor
  · rintro ⟨j, hj, e⟩
    refine ⟨j, hj, ?_⟩
    rw [← nI_add, ← e, Int32.add_comm]
    exact (Int32.sub_add_cancel x (nI c)).symm
  · rintro ⟨j, hj, rfl⟩
    refine ⟨j, hj, ?_⟩
    rw [← nI_add, Int32.add_comm]
    exact Int32.add_sub_cancel (nI j) (nI c)
