noncomputable def wgB (g : Nat → Nat) (b : WT) (x : Int32) : Int32 := cif (x = 0) (nI b.1) (cif (x = nI 1) (nI 63 &&& (b.2.1 ^^^ (-1))) (cif (x = nI 2) (nI 63 &&& (b.2.2.1 ^^^ (-1))) (cif (x = nI 3) (nI b.2.2.2.1) (nI (ld g (x - nI 10).toNatClampNeg b.2.2.2.2)))))
theorem wgA_z {m : St} {t W e : Nat} {x : Int32} (h : (wgR m t W e).1 = 0) : wgA m t W e x = -2 := cif_t h
theorem wgA_n {m : St} {t W e : Nat} {x : Int32} (h : ¬ (wgR m t W e).1 = 0) : wgA m t W e x = wgB (gW m t) (wgR m t W e) x := cif_f h
set_option maxRecDepth 4000 in
theorem cx_wganswer {E : En} (hok : EOK E) {h : Hp} (hs : Shp h.2) {g : Nat → Nat} {b : WT} (hb1 : b.1 ≤ 117649) (hb2 : b.2.2.2.1 ≤ 36) (hz : ¬ b.1 = 0) (hen : encW g b h) {x : Int32} (hxq : (0 ≤ x ∧ x ≤ 3) ∨ (0 ≤ x - nI 10 ∧ x - nI 10 ≤ 5)) : Call E m_X9_answer 1 0 0 [vR (9, 0), vI x] h (fun r0 h' => r0 = some (vI (wgB g b x)) ∧ h = h') := by
  obtain ⟨e7, e8, e9, e10, e45⟩ := hen
  refine Call.enter hok (by decide) (Nat.le_of_ble_eq_true rfl) ?_
  show G E m_X9_answer 1 0 0 _ h 0 [some (vR (9, 0)), some (vI x)] [] h 0 0
  refine g_iload_n (pc' := 1) dX9_answer_0 rfl rfl ?_
  rcases Classical.em (x = nI 0) with rfl | w0
  ·
    refine g_tabIn (off := 31) (tgt := 32) dX9_answer_1 (by decide) (by decide) rfl (by decide) ?_
    refine g_aload_n (pc' := 33) dX9_answer_32 rfl rfl ?_
    refine g_getIv (v := nI b.1) (pc' := 36) (k := 7) dX9_answer_33 rfl rfl ck_10 (by decide) fl_X9_34 rfl (e7) ?_
    refine g_iret dX9_answer_36 rfl (by decide) (by decide) ?_
    exact ⟨congrArg (fun z : Int32 => some (vI z)) (show _ = wgB g b (nI 0) from (cif_t rfl).symm), rfl⟩
  rcases Classical.em (x = nI 1) with rfl | w1
  ·
    refine g_tabIn (off := 36) (tgt := 37) dX9_answer_1 (by decide) (by decide) rfl (by decide) ?_
    refine g_bipushN (n := 63) (pc' := 39) dX9_answer_37 rfl (by decide) ?_
    refine g_aload_n (pc' := 40) dX9_answer_39 rfl rfl ?_
    refine g_getIv (v := b.2.1) (pc' := 43) (k := 9) dX9_answer_40 rfl rfl ck_10 (by decide) fl_X9_40 rfl (e9) ?_
    refine g_iconst (v := -1) (pc' := 44) dX9_answer_43 rfl (by decide) ?_
    refine g_ixor (pc' := 45) dX9_answer_44 rfl ?_
    refine g_iand (pc' := 46) dX9_answer_45 rfl ?_
    refine g_iret dX9_answer_46 rfl (by decide) (by decide) ?_
    exact ⟨congrArg (fun z : Int32 => some (vI z)) (show _ = wgB g b (nI 1) from ((cif_f (by decide)).trans (cif_t rfl)).symm), rfl⟩
  rcases Classical.em (x = nI 2) with rfl | w2
  ·
    refine g_tabIn (off := 46) (tgt := 47) dX9_answer_1 (by decide) (by decide) rfl (by decide) ?_
    refine g_bipushN (n := 63) (pc' := 49) dX9_answer_47 rfl (by decide) ?_
    refine g_aload_n (pc' := 50) dX9_answer_49 rfl rfl ?_
    refine g_getIv (v := b.2.2.1) (pc' := 53) (k := 10) dX9_answer_50 rfl rfl ck_10 (by decide) fl_X9_43 rfl (e10) ?_
    refine g_iconst (v := -1) (pc' := 54) dX9_answer_53 rfl (by decide) ?_
    refine g_ixor (pc' := 55) dX9_answer_54 rfl ?_
    refine g_iand (pc' := 56) dX9_answer_55 rfl ?_
    refine g_iret dX9_answer_56 rfl (by decide) (by decide) ?_
    exact ⟨congrArg (fun z : Int32 => some (vI z)) (show _ = wgB g b (nI 2) from ((cif_f (by decide)).trans ((cif_f (by decide)).trans (cif_t rfl))).symm), rfl⟩
  rcases Classical.em (x = nI 3) with rfl | w3
  ·
    refine g_tabIn (off := 56) (tgt := 57) dX9_answer_1 (by decide) (by decide) rfl (by decide) ?_
    refine g_aload_n (pc' := 58) dX9_answer_57 rfl rfl ?_
    refine g_getIv (v := nI b.2.2.2.1) (pc' := 61) (k := 8) dX9_answer_58 rfl rfl ck_10 (by decide) fl_X9_37 rfl (e8) ?_
    refine g_iret dX9_answer_61 rfl (by decide) (by decide) ?_
    exact ⟨congrArg (fun z : Int32 => some (vI z)) (show _ = wgB g b (nI 3) from ((cif_f (by decide)).trans ((cif_f (by decide)).trans ((cif_f (by decide)).trans (cif_t rfl)))).symm), rfl⟩
  refine g_tabOut (tgt := 62) dX9_answer_1 (tab_out 3 (fun i hi => by rcases (show i = 0 ∨ i = 1 ∨ i = 2 ∨ i = 3 by omega) with rfl | rfl | rfl | rfl <;> assumption)) (by decide) ?_
  refine g_iload_n (pc' := 63) dX9_answer_62 rfl rfl ?_
  refine g_bipushN (n := 10) (pc' := 65) dX9_answer_63 rfl (by decide) ?_
  refine g_bipushN (n := 15) (pc' := 67) dX9_answer_65 rfl (by decide) ?_
  refine g_invSN (pc' := 70) (cx_within hok _ _ _) dX9_answer_67 rfl nn_X9_64 st_X11_within in_X11 co_X11_within pd_X11_within rfl (by omega) (by decide) ⟨by decide, by decide⟩ (Nat.le_of_ble_eq_true rfl) ?_
  rintro _ _ ⟨rfl, rfl⟩ -
  refine g_ifB_eq (tgt := 85) (pc' := 73) dX9_answer_70 rfl (by decide) (fun c70 => ?_) (fun c70 => ?_)
  · exact absurd (ten_iff.mp (hxq.resolve_left (fun z => by obtain ⟨j, hj, rfl⟩ := four_iff.mp z; rcases (show j = 0 ∨ j = 1 ∨ j = 2 ∨ j = 3 by omega) with rfl | rfl | rfl | rfl <;> contradiction))) c70
  ·
    refine g_aload_n (pc' := 74) dX9_answer_73 rfl rfl ?_
    refine g_getS (pc' := 77) (k := 1) (b := (45, 0)) dX9_answer_74 rfl rfl ck_10 (by decide) fl_X9_15 rfl hs rfl ?_
    refine g_iload_n (pc' := 78) dX9_answer_77 rfl rfl ?_
    refine g_bipushN (n := 10) (pc' := 80) dX9_answer_78 rfl (by decide) ?_
    refine g_isub (pc' := 81) dX9_answer_80 rfl ?_
    obtain ⟨i, hi, ei⟩ := sort_iff.mp (ten_iff.mpr c70)
    rw [ei]
    refine g_ialdN (pc' := 82) (v := nI (ld g i b.2.2.2.2)) dX9_answer_81 rfl rfl (by decide) (by omega) (e45 hz i hi) ?_
    refine g_goto (tgt := 86) dX9_answer_82 (by decide) ?_
    refine g_iret dX9_answer_86 rfl (by decide) (by decide) ?_
    exact ⟨congrArg (fun z : Int32 => some (vI z)) (show _ = wgB g b x from ((cif_f w0).trans ((cif_f w1).trans ((cif_f w2).trans ((cif_f w3).trans (by rw [ei, nI_clamp (by omega)]))))).symm), rfl⟩
set_option maxRecDepth 4000 in
theorem cx_weigh {E : En} (hok : EOK E) {h : Hp} {m : St} (hc : Cp m h) (hw : Wf m) (hx : Wx m) (t0 : Int32) (w0 : Int32) (e0 : Int32) (x : Int32) : Call E m_X11_weigh 10 0 0 [vR TH, vI t0, vI w0, vI e0, vI x] h (fun r h' => r = some (vI (sWeigh m t0 w0 e0 x).1) ∧ Cp (sWeigh m t0 w0 e0 x).2 h' ∧ mo h' = mo h) := by
  have hs := hc.s
  have hKb := hw.k.2
  have hTb := hw.t.2
  have hFb := hw.f.2
  have hRb := hw.r.2
  have hGb := hw.g.2
  have hAb := hw.a.2
  have hTlb := hw.tl.2
  have hNwb := hw.w.2
  refine Call.enter hok (by decide) (Nat.le_of_ble_eq_true rfl) ?_
  show G E m_X11_weigh 10 0 0 _ h 0 [some (vR TH), some (vI t0), some (vI w0), some (vI e0), some (vI x), none, none] [] h 0 0
  refine g_aload_n (pc' := 1) dX11_weigh_0 rfl rfl ?_
  refine g_iload_n (pc' := 2) dX11_weigh_1 rfl rfl ?_
  rcases Classical.em (∃ j : Nat, j < nT m ∧ t0 = nI j) with w2 | w2
  ·
    have k2 := w2
    obtain ⟨t, ht, rfl⟩ := k2
    refine g_invV (pc' := 5) (cx_toyAt hok hc hw ht) dX11_weigh_2 rfl rfl ck_12 rfl ml_X11_151 im_X11_toyAt sl_X11_toyAt in_X11 co_X11_toyAt pd_X11_toyAt rfl (by omega) (by decide) ⟨by decide, by decide⟩ (Nat.le_of_ble_eq_true rfl) ?_
    rintro _ _ ⟨rfl, rfl⟩ -
    refine g_astore (pc' := 7) dX11_weigh_5 rfl (by decide) rfl ?_
    try simp only [List.set]
    refine g_iload (pc' := 9) dX11_weigh_7 rfl rfl ?_
    refine g_iconstN (n := 0) (pc' := 10) dX11_weigh_9 rfl ?_
    refine g_iconstN (n := 3) (pc' := 11) dX11_weigh_10 rfl ?_
    refine g_invS (pc' := 14) (cx_within hok _ _ _) dX11_weigh_11 rfl ml_X11_99 st_X11_within in_X11 co_X11_within pd_X11_within rfl (by omega) (by decide) ⟨by decide, by decide⟩ (Nat.le_of_ble_eq_true rfl) ?_
    rintro _ _ ⟨rfl, rfl⟩ -
    refine g_ifB_ne (tgt := 29) (pc' := 17) dX11_weigh_14 rfl (by decide) (fun c14 => ?_) (fun c14 => ?_)
    ·
      refine g_iconstN (n := 1) (pc' := 30) dX11_weigh_29 rfl ?_
      refine g_goto (tgt := 34) dX11_weigh_30 (by decide) ?_
      refine g_istore (pc' := 36) dX11_weigh_34 rfl (by decide) rfl ?_
      try simp only [List.set]
      refine g_aload (pc' := 38) dX11_weigh_36 rfl rfl ?_
      refine g_ifnull (pc' := 41) dX11_weigh_38 rfl ?_
      refine g_iload (pc' := 43) dX11_weigh_41 rfl rfl ?_
      refine g_if_eqN (tgt := 68) (pc' := 46) dX11_weigh_43 rfl (by decide) (by decide) (fun q => False.elim (by revert q; decide)) (fun _ => ?_)
      refine g_iload_n (pc' := 47) dX11_weigh_46 rfl rfl ?_
      refine g_iconstN (n := 0) (pc' := 48) dX11_weigh_47 rfl ?_
      refine g_ldcw (pc' := 51) dX11_weigh_48 rfl kc_X11_290 ?_
      refine g_invS (pc' := 54) (cx_within hok _ _ _) dX11_weigh_51 rfl ml_X11_99 st_X11_within in_X11 co_X11_within pd_X11_within rfl (by omega) (by decide) ⟨by decide, by decide⟩ (Nat.le_of_ble_eq_true rfl) ?_
      rintro _ _ ⟨rfl, rfl⟩ -
      refine g_ifB_eq (tgt := 68) (pc' := 57) dX11_weigh_54 rfl (by decide) (fun c54 => ?_) (fun c54 => ?_)
      ·
        refine g_iconst (v := -1) (pc' := 69) dX11_weigh_68 rfl (by decide) ?_
        refine g_iret dX11_weigh_69 rfl (by decide) (by decide) ?_
        have e : sWeigh m (nI t) w0 e0 x = (-1, m) := cif_f (fun z => c54 z.2.1)
        rw [e]
        exact ⟨rfl, hc, rfl⟩
      ·
        obtain ⟨W, hW, rfl⟩ := rng (n := 200000) rfl (by decide) c54
        refine g_iload_n (pc' := 58) dX11_weigh_57 rfl rfl ?_
        refine g_iconstN (n := 0) (pc' := 59) dX11_weigh_58 rfl ?_
        refine g_sipushN (n := 2000) (pc' := 62) dX11_weigh_59 rfl (by decide) ?_
        refine g_invS (pc' := 65) (cx_within hok _ _ _) dX11_weigh_62 rfl ml_X11_99 st_X11_within in_X11 co_X11_within pd_X11_within rfl (by omega) (by decide) ⟨by decide, by decide⟩ (Nat.le_of_ble_eq_true rfl) ?_
        rintro _ _ ⟨rfl, rfl⟩ -
        refine g_ifB_ne (tgt := 70) (pc' := 68) dX11_weigh_65 rfl (by decide) (fun c65 => ?_) (fun c65 => ?_)
        ·
          obtain ⟨e, he, rfl⟩ := rng (n := 2000) rfl (by decide) c65
          refine g_aload_n (pc' := 71) dX11_weigh_70 rfl rfl ?_
          refine g_getS (pc' := 74) (k := 16) (b := (9, 0)) dX11_weigh_71 rfl rfl ck_12 (by decide) fl_X11_70 rfl hs rfl ?_
          refine g_aload (pc' := 76) dX11_weigh_74 rfl rfl ?_
          refine g_aload_n (pc' := 77) dX11_weigh_76 rfl rfl ?_
          refine g_getIv (v := m 1 6) (pc' := 80) (k := 1) dX11_weigh_77 rfl rfl ck_12 (by decide) fl_X11_145 rfl (hc.c1.2.1) ?_
          refine g_aload (pc' := 82) dX11_weigh_80 rfl rfl ?_
          refine g_invV (pc' := 85) (cx_weightOfPieces hok hc hw (t := t) (by omega)) dX11_weigh_82 rfl rfl ck_9 rfl ml_X11_284 im_X8_weightOfPieces sl_X8_weightOfPieces in_X8 co_X8_weightOfPieces pd_X8_weightOfPieces rfl (by omega) (by decide) ⟨by decide, by decide⟩ (Nat.le_of_ble_eq_true rfl) ?_
          rintro _ _ ⟨rfl, rfl⟩ -
          refine g_iadd (pc' := 86) dX11_weigh_85 rfl ?_
          refine g_iload_n (pc' := 87) dX11_weigh_86 rfl rfl ?_
          refine g_isub (pc' := 88) dX11_weigh_87 rfl ?_
          refine g_iload_n (pc' := 89) dX11_weigh_88 rfl rfl ?_
          rw [show m 1 6 + sm (fun s => m 125 (6 * t + s) * m 114 (6 * kd m t + s)) 6 = nI (bgN m t) from (bag_n hw hx ht).1]
          refine g_invV (pc' := 92) (cx_wgsearch hok hs (gW_le hw hx ht) (vW_le hw hx ht) (t := t) (k := kd m t) (by omega) (Nat.lt_of_lt_of_le (hw.kd ht).2 hKb) (lim_of (bag_n hw hx ht).2 hW he) ⟨fun s h6 => ⟨((hc.c6.2.1 t ht).2.2 s h6).trans (hs_n hw hx ht h6).1, ((hc.c5.2.1 _ (hw.kd ht).2).2.2 s h6).trans (wt_n hx (hw.kd ht).2 h6).1⟩, (hc.c6.2.1 t ht).1⟩ hc.c13) dX11_weigh_89 rfl rfl ck_10 rfl ml_X11_291 im_X9_search sl_X9_search in_X9 co_X9_search pd_X9_search rfl (by omega) (by decide) ⟨by decide, by decide⟩ (Nat.le_of_ble_eq_true rfl) ?_
          rintro _ h1 ⟨rfl, s1, k1, en⟩ -
          have hc1 : Cp m h1 := hc.sc s1 k1
          have hs1 := hc1.s
          have hs := hs1
          have hle := wgF_le (gW_le hw hx ht) (w := vW m t) (B := bgN m t) (W := W) (e := e) (rx (gW m t) 0)
          have hrx := rx_le (gW_le hw hx ht)
          have hwb : (wgR m t W e).1 ≤ 117649 := Nat.le_trans hle.1 hrx
          refine g_aload_n (pc' := 93) dX11_weigh_92 rfl rfl ?_
          refine g_getS (pc' := 96) (k := 16) (b := (9, 0)) dX11_weigh_93 rfl rfl ck_12 (by decide) fl_X11_70 rfl hs rfl ?_
          refine g_getIv (v := nI ((wgR m t W e).1)) (pc' := 99) (k := 7) dX11_weigh_96 rfl rfl ck_10 (by decide) fl_X11_295 rfl (en.1) ?_
          refine g_if_neN (tgt := 107) (pc' := 102) dX11_weigh_99 rfl (by decide) (by omega) (fun c99 => ?_) (fun c99 => ?_)
          ·
            refine g_aload_n (pc' := 108) dX11_weigh_107 rfl rfl ?_
            refine g_getS (pc' := 111) (k := 16) (b := (9, 0)) dX11_weigh_108 rfl rfl ck_12 (by decide) fl_X11_70 rfl hs rfl ?_
            refine g_iload (pc' := 113) dX11_weigh_111 rfl rfl ?_
            refine g_invV (pc' := 116) (cx_wganswer hok hs (b := wgR m t W e) (by unfold wgR; omega) hle.2 c99 en (by first | exact Or.inl c14 | exact Or.inr (ten_iff.mpr c26))) dX11_weigh_113 rfl rfl ck_10 rfl ml_X11_298 im_X9_answer sl_X9_answer in_X9 co_X9_answer pd_X9_answer rfl (by omega) (by decide) ⟨by decide, by decide⟩ (Nat.le_of_ble_eq_true rfl) ?_
            rintro _ _ ⟨rfl, rfl⟩ -
            refine g_iret dX11_weigh_116 rfl (by decide) (by decide) ?_
            have ee : sWeigh m (nI t) (nI W) (nI e) x = (wgA m t W e x, m) := by unfold sWeigh; simp only [nI_clamp (show t < 2 ^ 31 by omega), nI_clamp (show W < 2 ^ 31 by omega), nI_clamp (show e < 2 ^ 31 by omega)]; exact cif_t ⟨⟨t, ht, rfl⟩, c54, c65, Or.inl c14⟩
            rw [ee, wgA_n c99]
            exact ⟨rfl, hc1, s1.mo⟩
          ·
            refine g_bipush (v := -2) (pc' := 104) dX11_weigh_102 rfl (by decide) ?_
            refine g_goto (tgt := 116) dX11_weigh_104 (by decide) ?_
            refine g_iret dX11_weigh_116 rfl (by decide) (by decide) ?_
            have ee : sWeigh m (nI t) (nI W) (nI e) x = (wgA m t W e x, m) := by unfold sWeigh; simp only [nI_clamp (show t < 2 ^ 31 by omega), nI_clamp (show W < 2 ^ 31 by omega), nI_clamp (show e < 2 ^ 31 by omega)]; exact cif_t ⟨⟨t, ht, rfl⟩, c54, c65, Or.inl c14⟩
            rw [ee, wgA_z c99]
            exact ⟨rfl, hc1, s1.mo⟩
        ·
          refine g_iconst (v := -1) (pc' := 69) dX11_weigh_68 rfl (by decide) ?_
          refine g_iret dX11_weigh_69 rfl (by decide) (by decide) ?_
          have e : sWeigh m (nI t) (nI W) e0 x = (-1, m) := cif_f (fun z => c65 z.2.2.1)
          rw [e]
          exact ⟨rfl, hc, rfl⟩
    ·
      refine g_iload (pc' := 19) dX11_weigh_17 rfl rfl ?_
      refine g_bipushN (n := 10) (pc' := 21) dX11_weigh_19 rfl (by decide) ?_
      refine g_bipushN (n := 15) (pc' := 23) dX11_weigh_21 rfl (by decide) ?_
      refine g_invS (pc' := 26) (cx_within hok _ _ _) dX11_weigh_23 rfl ml_X11_99 st_X11_within in_X11 co_X11_within pd_X11_within rfl (by omega) (by decide) ⟨by decide, by decide⟩ (Nat.le_of_ble_eq_true rfl) ?_
      rintro _ _ ⟨rfl, rfl⟩ -
      refine g_ifB_eq (tgt := 33) (pc' := 29) dX11_weigh_26 rfl (by decide) (fun c26 => ?_) (fun c26 => ?_)
      ·
        refine g_iconstN (n := 0) (pc' := 34) dX11_weigh_33 rfl ?_
        refine g_istore (pc' := 36) dX11_weigh_34 rfl (by decide) rfl ?_
        try simp only [List.set]
        refine g_aload (pc' := 38) dX11_weigh_36 rfl rfl ?_
        refine g_ifnull (pc' := 41) dX11_weigh_38 rfl ?_
        refine g_iload (pc' := 43) dX11_weigh_41 rfl rfl ?_
        refine g_if_eqN (tgt := 68) (pc' := 46) dX11_weigh_43 rfl (by decide) (by decide) (fun _ => ?_) (fun q => False.elim (by revert q; decide))
        refine g_iconst (v := -1) (pc' := 69) dX11_weigh_68 rfl (by decide) ?_
        refine g_iret dX11_weigh_69 rfl (by decide) (by decide) ?_
        have e : sWeigh m (nI t) w0 e0 x = (-1, m) := cif_f (fun z => z.2.2.2.elim c14 (fun y => c26 (ten_iff.mp y)))
        rw [e]
        exact ⟨rfl, hc, rfl⟩
      ·
        refine g_iconstN (n := 1) (pc' := 30) dX11_weigh_29 rfl ?_
        refine g_goto (tgt := 34) dX11_weigh_30 (by decide) ?_
        refine g_istore (pc' := 36) dX11_weigh_34 rfl (by decide) rfl ?_
        try simp only [List.set]
        refine g_aload (pc' := 38) dX11_weigh_36 rfl rfl ?_
        refine g_ifnull (pc' := 41) dX11_weigh_38 rfl ?_
        refine g_iload (pc' := 43) dX11_weigh_41 rfl rfl ?_
        refine g_if_eqN (tgt := 68) (pc' := 46) dX11_weigh_43 rfl (by decide) (by decide) (fun q => False.elim (by revert q; decide)) (fun _ => ?_)
        refine g_iload_n (pc' := 47) dX11_weigh_46 rfl rfl ?_
        refine g_iconstN (n := 0) (pc' := 48) dX11_weigh_47 rfl ?_
        refine g_ldcw (pc' := 51) dX11_weigh_48 rfl kc_X11_290 ?_
        refine g_invS (pc' := 54) (cx_within hok _ _ _) dX11_weigh_51 rfl ml_X11_99 st_X11_within in_X11 co_X11_within pd_X11_within rfl (by omega) (by decide) ⟨by decide, by decide⟩ (Nat.le_of_ble_eq_true rfl) ?_
        rintro _ _ ⟨rfl, rfl⟩ -
        refine g_ifB_eq (tgt := 68) (pc' := 57) dX11_weigh_54 rfl (by decide) (fun c54 => ?_) (fun c54 => ?_)
        ·
          refine g_iconst (v := -1) (pc' := 69) dX11_weigh_68 rfl (by decide) ?_
          refine g_iret dX11_weigh_69 rfl (by decide) (by decide) ?_
          have e : sWeigh m (nI t) w0 e0 x = (-1, m) := cif_f (fun z => c54 z.2.1)
          rw [e]
          exact ⟨rfl, hc, rfl⟩
        ·
          obtain ⟨W, hW, rfl⟩ := rng (n := 200000) rfl (by decide) c54
          refine g_iload_n (pc' := 58) dX11_weigh_57 rfl rfl ?_
          refine g_iconstN (n := 0) (pc' := 59) dX11_weigh_58 rfl ?_
          refine g_sipushN (n := 2000) (pc' := 62) dX11_weigh_59 rfl (by decide) ?_
          refine g_invS (pc' := 65) (cx_within hok _ _ _) dX11_weigh_62 rfl ml_X11_99 st_X11_within in_X11 co_X11_within pd_X11_within rfl (by omega) (by decide) ⟨by decide, by decide⟩ (Nat.le_of_ble_eq_true rfl) ?_
          rintro _ _ ⟨rfl, rfl⟩ -
          refine g_ifB_ne (tgt := 70) (pc' := 68) dX11_weigh_65 rfl (by decide) (fun c65 => ?_) (fun c65 => ?_)
          ·
            obtain ⟨e, he, rfl⟩ := rng (n := 2000) rfl (by decide) c65
            refine g_aload_n (pc' := 71) dX11_weigh_70 rfl rfl ?_
            refine g_getS (pc' := 74) (k := 16) (b := (9, 0)) dX11_weigh_71 rfl rfl ck_12 (by decide) fl_X11_70 rfl hs rfl ?_
            refine g_aload (pc' := 76) dX11_weigh_74 rfl rfl ?_
            refine g_aload_n (pc' := 77) dX11_weigh_76 rfl rfl ?_
            refine g_getIv (v := m 1 6) (pc' := 80) (k := 1) dX11_weigh_77 rfl rfl ck_12 (by decide) fl_X11_145 rfl (hc.c1.2.1) ?_
            refine g_aload (pc' := 82) dX11_weigh_80 rfl rfl ?_
            refine g_invV (pc' := 85) (cx_weightOfPieces hok hc hw (t := t) (by omega)) dX11_weigh_82 rfl rfl ck_9 rfl ml_X11_284 im_X8_weightOfPieces sl_X8_weightOfPieces in_X8 co_X8_weightOfPieces pd_X8_weightOfPieces rfl (by omega) (by decide) ⟨by decide, by decide⟩ (Nat.le_of_ble_eq_true rfl) ?_
            rintro _ _ ⟨rfl, rfl⟩ -
            refine g_iadd (pc' := 86) dX11_weigh_85 rfl ?_
            refine g_iload_n (pc' := 87) dX11_weigh_86 rfl rfl ?_
            refine g_isub (pc' := 88) dX11_weigh_87 rfl ?_
            refine g_iload_n (pc' := 89) dX11_weigh_88 rfl rfl ?_
            rw [show m 1 6 + sm (fun s => m 125 (6 * t + s) * m 114 (6 * kd m t + s)) 6 = nI (bgN m t) from (bag_n hw hx ht).1]
            refine g_invV (pc' := 92) (cx_wgsearch hok hs (gW_le hw hx ht) (vW_le hw hx ht) (t := t) (k := kd m t) (by omega) (Nat.lt_of_lt_of_le (hw.kd ht).2 hKb) (lim_of (bag_n hw hx ht).2 hW he) ⟨fun s h6 => ⟨((hc.c6.2.1 t ht).2.2 s h6).trans (hs_n hw hx ht h6).1, ((hc.c5.2.1 _ (hw.kd ht).2).2.2 s h6).trans (wt_n hx (hw.kd ht).2 h6).1⟩, (hc.c6.2.1 t ht).1⟩ hc.c13) dX11_weigh_89 rfl rfl ck_10 rfl ml_X11_291 im_X9_search sl_X9_search in_X9 co_X9_search pd_X9_search rfl (by omega) (by decide) ⟨by decide, by decide⟩ (Nat.le_of_ble_eq_true rfl) ?_
            rintro _ h1 ⟨rfl, s1, k1, en⟩ -
            have hc1 : Cp m h1 := hc.sc s1 k1
            have hs1 := hc1.s
            have hs := hs1
            have hle := wgF_le (gW_le hw hx ht) (w := vW m t) (B := bgN m t) (W := W) (e := e) (rx (gW m t) 0)
            have hrx := rx_le (gW_le hw hx ht)
            have hwb : (wgR m t W e).1 ≤ 117649 := Nat.le_trans hle.1 hrx
            refine g_aload_n (pc' := 93) dX11_weigh_92 rfl rfl ?_
            refine g_getS (pc' := 96) (k := 16) (b := (9, 0)) dX11_weigh_93 rfl rfl ck_12 (by decide) fl_X11_70 rfl hs rfl ?_
            refine g_getIv (v := nI ((wgR m t W e).1)) (pc' := 99) (k := 7) dX11_weigh_96 rfl rfl ck_10 (by decide) fl_X11_295 rfl (en.1) ?_
            refine g_if_neN (tgt := 107) (pc' := 102) dX11_weigh_99 rfl (by decide) (by omega) (fun c99 => ?_) (fun c99 => ?_)
            ·
              refine g_aload_n (pc' := 108) dX11_weigh_107 rfl rfl ?_
              refine g_getS (pc' := 111) (k := 16) (b := (9, 0)) dX11_weigh_108 rfl rfl ck_12 (by decide) fl_X11_70 rfl hs rfl ?_
              refine g_iload (pc' := 113) dX11_weigh_111 rfl rfl ?_
              refine g_invV (pc' := 116) (cx_wganswer hok hs (b := wgR m t W e) (by unfold wgR; omega) hle.2 c99 en (by first | exact Or.inl c14 | exact Or.inr (ten_iff.mpr c26))) dX11_weigh_113 rfl rfl ck_10 rfl ml_X11_298 im_X9_answer sl_X9_answer in_X9 co_X9_answer pd_X9_answer rfl (by omega) (by decide) ⟨by decide, by decide⟩ (Nat.le_of_ble_eq_true rfl) ?_
              rintro _ _ ⟨rfl, rfl⟩ -
              refine g_iret dX11_weigh_116 rfl (by decide) (by decide) ?_
              have ee : sWeigh m (nI t) (nI W) (nI e) x = (wgA m t W e x, m) := by unfold sWeigh; simp only [nI_clamp (show t < 2 ^ 31 by omega), nI_clamp (show W < 2 ^ 31 by omega), nI_clamp (show e < 2 ^ 31 by omega)]; exact cif_t ⟨⟨t, ht, rfl⟩, c54, c65, Or.inr (ten_iff.mpr c26)⟩
              rw [ee, wgA_n c99]
              exact ⟨rfl, hc1, s1.mo⟩
            ·
              refine g_bipush (v := -2) (pc' := 104) dX11_weigh_102 rfl (by decide) ?_
              refine g_goto (tgt := 116) dX11_weigh_104 (by decide) ?_
              refine g_iret dX11_weigh_116 rfl (by decide) (by decide) ?_
              have ee : sWeigh m (nI t) (nI W) (nI e) x = (wgA m t W e x, m) := by unfold sWeigh; simp only [nI_clamp (show t < 2 ^ 31 by omega), nI_clamp (show W < 2 ^ 31 by omega), nI_clamp (show e < 2 ^ 31 by omega)]; exact cif_t ⟨⟨t, ht, rfl⟩, c54, c65, Or.inr (ten_iff.mpr c26)⟩
              rw [ee, wgA_z c99]
              exact ⟨rfl, hc1, s1.mo⟩
          ·
            refine g_iconst (v := -1) (pc' := 69) dX11_weigh_68 rfl (by decide) ?_
            refine g_iret dX11_weigh_69 rfl (by decide) (by decide) ?_
            have e : sWeigh m (nI t) (nI W) e0 x = (-1, m) := cif_f (fun z => c65 z.2.2.1)
            rw [e]
            exact ⟨rfl, hc, rfl⟩
  ·
    refine g_invV (pc' := 5) (cx_toyAtN hok hc hw w2) dX11_weigh_2 rfl rfl ck_12 rfl ml_X11_151 im_X11_toyAt sl_X11_toyAt in_X11 co_X11_toyAt pd_X11_toyAt rfl (by omega) (by decide) ⟨by decide, by decide⟩ (Nat.le_of_ble_eq_true rfl) ?_
    rintro _ _ ⟨rfl, rfl⟩ -
    refine g_astore (pc' := 7) dX11_weigh_5 rfl (by decide) rfl ?_
    try simp only [List.set]
    refine g_iload (pc' := 9) dX11_weigh_7 rfl rfl ?_
    refine g_iconstN (n := 0) (pc' := 10) dX11_weigh_9 rfl ?_
    refine g_iconstN (n := 3) (pc' := 11) dX11_weigh_10 rfl ?_
    refine g_invS (pc' := 14) (cx_within hok _ _ _) dX11_weigh_11 rfl ml_X11_99 st_X11_within in_X11 co_X11_within pd_X11_within rfl (by omega) (by decide) ⟨by decide, by decide⟩ (Nat.le_of_ble_eq_true rfl) ?_
    rintro _ _ ⟨rfl, rfl⟩ -
    refine g_ifB_ne (tgt := 29) (pc' := 17) dX11_weigh_14 rfl (by decide) (fun c14 => ?_) (fun c14 => ?_)
    ·
      refine g_iconstN (n := 1) (pc' := 30) dX11_weigh_29 rfl ?_
      refine g_goto (tgt := 34) dX11_weigh_30 (by decide) ?_
      refine g_istore (pc' := 36) dX11_weigh_34 rfl (by decide) rfl ?_
      try simp only [List.set]
      refine g_aload (pc' := 38) dX11_weigh_36 rfl rfl ?_
      refine g_ifnullN (tgt := 68) dX11_weigh_38 (by decide) ?_
      refine g_iconst (v := -1) (pc' := 69) dX11_weigh_68 rfl (by decide) ?_
      refine g_iret dX11_weigh_69 rfl (by decide) (by decide) ?_
      have e : sWeigh m t0 w0 e0 x = (-1, m) := cif_f (fun z => w2 z.1)
      rw [e]
      exact ⟨rfl, hc, rfl⟩
    ·
      refine g_iload (pc' := 19) dX11_weigh_17 rfl rfl ?_
      refine g_bipushN (n := 10) (pc' := 21) dX11_weigh_19 rfl (by decide) ?_
      refine g_bipushN (n := 15) (pc' := 23) dX11_weigh_21 rfl (by decide) ?_
      refine g_invS (pc' := 26) (cx_within hok _ _ _) dX11_weigh_23 rfl ml_X11_99 st_X11_within in_X11 co_X11_within pd_X11_within rfl (by omega) (by decide) ⟨by decide, by decide⟩ (Nat.le_of_ble_eq_true rfl) ?_
      rintro _ _ ⟨rfl, rfl⟩ -
      refine g_ifB_eq (tgt := 33) (pc' := 29) dX11_weigh_26 rfl (by decide) (fun c26 => ?_) (fun c26 => ?_)
      ·
        refine g_iconstN (n := 0) (pc' := 34) dX11_weigh_33 rfl ?_
        refine g_istore (pc' := 36) dX11_weigh_34 rfl (by decide) rfl ?_
        try simp only [List.set]
        refine g_aload (pc' := 38) dX11_weigh_36 rfl rfl ?_
        refine g_ifnullN (tgt := 68) dX11_weigh_38 (by decide) ?_
        refine g_iconst (v := -1) (pc' := 69) dX11_weigh_68 rfl (by decide) ?_
        refine g_iret dX11_weigh_69 rfl (by decide) (by decide) ?_
        have e : sWeigh m t0 w0 e0 x = (-1, m) := cif_f (fun z => w2 z.1)
        rw [e]
        exact ⟨rfl, hc, rfl⟩
      ·
        refine g_iconstN (n := 1) (pc' := 30) dX11_weigh_29 rfl ?_
        refine g_goto (tgt := 34) dX11_weigh_30 (by decide) ?_
        refine g_istore (pc' := 36) dX11_weigh_34 rfl (by decide) rfl ?_
        try simp only [List.set]
        refine g_aload (pc' := 38) dX11_weigh_36 rfl rfl ?_
        refine g_ifnullN (tgt := 68) dX11_weigh_38 (by decide) ?_
        refine g_iconst (v := -1) (pc' := 69) dX11_weigh_68 rfl (by decide) ?_
        refine g_iret dX11_weigh_69 rfl (by decide) (by decide) ?_
        have e : sWeigh m t0 w0 e0 x = (-1, m) := cif_f (fun z => w2 z.1)
        rw [e]
        exact ⟨rfl, hc, rfl⟩
