set_option maxRecDepth 4000 in
theorem cx_holderOf {E : En} (hok : EOK E) {h : Hp} {m : St} (hc : Cp m h) (hw : Wf m) (hx : Wx m) {t : Nat} (ht : t < nT m) (w : m 118 t = 1) : Call E m_X11_holderOf 4 0 0 [vR TH, vR (3, t)] h (fun r0 h' => r0 = some (vR (4, hl m t)) ∧ h = h') := by
  have hs := hc.s
  have hKb := hw.k.2
  have hTb := hw.t.2
  have hFb := hw.f.2
  have hRb := hw.r.2
  have hGb := hw.g.2
  have hAb := hw.a.2
  have hTlb := hw.tl.2
  have hNwb := hw.w.2
  have hhl := Wx.hl hx ht w hFb
  refine Call.enter hok (by decide) (Nat.le_of_ble_eq_true rfl) ?_
  show G E m_X11_holderOf 4 0 0 _ h 0 [some (vR TH), some (vR (3, t))] [] h 0 0
  refine g_aload_n (pc' := 1) dX11_holderOf_0 rfl rfl ?_
  refine g_ifnull (pc' := 4) dX11_holderOf_1 rfl ?_
  refine g_aload_n (pc' := 5) dX11_holderOf_4 rfl rfl ?_
  refine g_getIv (v := m 118 (t)) (pc' := 8) (k := 7) dX11_holderOf_5 rfl rfl ck_9 (by decide) fl_X11_264 rfl (hc.t7 (t := t) (by omega)) ?_
  refine g_iconstN (n := 1) (pc' := 9) dX11_holderOf_8 rfl ?_
  refine g_icmp_eq (tgt := 16) (pc' := 12) dX11_holderOf_9 rfl (by decide) (fun c9 => ?_) (fun c9 => ?_)
  ·
    refine g_aload_n (pc' := 17) dX11_holderOf_16 rfl rfl ?_
    refine g_aload_n (pc' := 18) dX11_holderOf_17 rfl rfl ?_
    refine g_getIv (v := nI (hl m t)) (pc' := 21) (k := 8) dX11_holderOf_18 rfl rfl ck_9 (by decide) fl_X11_271 rfl ((hc.t8 (t := t) ht).trans hhl.1) ?_
    refine g_invV (pc' := 24) (cx_familyAt hok hc hw hhl.2) dX11_holderOf_21 rfl rfl ck_12 rfl ml_X11_192 im_X11_familyAt sl_X11_familyAt in_X11 co_X11_familyAt pd_X11_familyAt rfl (by omega) (by decide) ⟨by decide, by decide⟩ (Nat.le_of_ble_eq_true rfl) ?_
    rintro _ _ ⟨rfl, rfl⟩ -
    refine g_aret dX11_holderOf_24 rfl (by first | exact Or.inl ⟨_, rfl⟩ | exact Or.inr ⟨_, rfl⟩) (by decide) (by decide) ?_
    exact ⟨rfl, rfl⟩
  · exact absurd w c9
set_option maxRecDepth 4000 in
theorem cx_holderOfN {E : En} (hok : EOK E) {h : Hp} {m : St} (hc : Cp m h) (hw : Wf m) {t : Nat} (ht : t < nT m) (w : ¬ m 118 t = 1) : Call E m_X11_holderOf 4 0 0 [vR TH, vR (3, t)] h (fun r0 h' => r0 = some (vN) ∧ h = h') := by
  have hs := hc.s
  have hKb := hw.k.2
  have hTb := hw.t.2
  have hFb := hw.f.2
  have hRb := hw.r.2
  have hGb := hw.g.2
  have hAb := hw.a.2
  have hTlb := hw.tl.2
  have hNwb := hw.w.2
  refine Call.enter hok (by decide) (Nat.le_of_ble_eq_true rfl) ?_
  show G E m_X11_holderOf 4 0 0 _ h 0 [some (vR TH), some (vR (3, t))] [] h 0 0
  refine g_aload_n (pc' := 1) dX11_holderOf_0 rfl rfl ?_
  refine g_ifnull (pc' := 4) dX11_holderOf_1 rfl ?_
  refine g_aload_n (pc' := 5) dX11_holderOf_4 rfl rfl ?_
  refine g_getIv (v := m 118 (t)) (pc' := 8) (k := 7) dX11_holderOf_5 rfl rfl ck_9 (by decide) fl_X11_264 rfl (hc.t7 (t := t) (by omega)) ?_
  refine g_iconstN (n := 1) (pc' := 9) dX11_holderOf_8 rfl ?_
  refine g_icmp_eq (tgt := 16) (pc' := 12) dX11_holderOf_9 rfl (by decide) (fun c9 => ?_) (fun c9 => ?_)
  · exact absurd c9 w
  ·
    refine g_null (pc' := 13) dX11_holderOf_12 rfl ?_
    refine g_goto (tgt := 24) dX11_holderOf_13 (by decide) ?_
    refine g_aret dX11_holderOf_24 rfl (by first | exact Or.inl ⟨_, rfl⟩ | exact Or.inr ⟨_, rfl⟩) (by decide) (by decide) ?_
    exact ⟨rfl, rfl⟩
set_option maxRecDepth 4000 in
theorem cx_holderOf0 {E : En} (hok : EOK E) {h : Hp} {m : St} (hc : Cp m h) (hw : Wf m)  : Call E m_X11_holderOf 4 0 0 [vR TH, vN] h (fun r0 h' => r0 = some (vN) ∧ h = h') := by
  have hs := hc.s
  have hKb := hw.k.2
  have hTb := hw.t.2
  have hFb := hw.f.2
  have hRb := hw.r.2
  have hGb := hw.g.2
  have hAb := hw.a.2
  have hTlb := hw.tl.2
  have hNwb := hw.w.2
  refine Call.enter hok (by decide) (Nat.le_of_ble_eq_true rfl) ?_
  show G E m_X11_holderOf 4 0 0 _ h 0 [some (vR TH), some (vN)] [] h 0 0
  refine g_aload_n (pc' := 1) dX11_holderOf_0 rfl rfl ?_
  refine g_ifnullN (tgt := 12) dX11_holderOf_1 (by decide) ?_
  refine g_null (pc' := 13) dX11_holderOf_12 rfl ?_
  refine g_goto (tgt := 24) dX11_holderOf_13 (by decide) ?_
  refine g_aret dX11_holderOf_24 rfl (by first | exact Or.inl ⟨_, rfl⟩ | exact Or.inr ⟨_, rfl⟩) (by decide) (by decide) ?_
  exact ⟨rfl, rfl⟩
theorem C6_came {m : St} {h : Hp} (c : C6 m h) (t : Nat) (x : Int32) (q : ¬ m 118 t = 0) : C6 (stU m 123 t x) h := by
  refine ⟨c.1, fun u hu => ?_, c.2.2⟩
  have a := c.2.1 u hu
  refine ⟨a.1, ?_, a.2.2⟩
  have z := a.2.1
  refine ⟨z.1, z.2.1, z.2.2.1, z.2.2.2.1, z.2.2.2.2.1, z.2.2.2.2.2.1, fun y => ?_, z.2.2.2.2.2.2.2⟩
  rw [stU_at, if_neg (fun v => q (by rw [← v.2]; exact y))]
  exact z.2.2.2.2.2.2.1 y
set_option maxRecDepth 4000 in
theorem cx_lost {E : En} (hok : EOK E) {h : Hp} {m : St} (hc : Cp m h) (hw : Wf m) (hx : Wx m) {R : Rm} (hCR : CR m h R) (t0 : Int32) : Call E m_X11_lost 6 0 0 [vR TH, vI t0] h (fun r h' => r = some (vI (sLost m R t0).1) ∧ Cp (sLost m R t0).2 h' ∧ mo h' = mo h) := by
  have hs := hc.s
  have hKb := hw.k.2
  have hTb := hw.t.2
  have hFb := hw.f.2
  have hRb := hw.r.2
  have hGb := hw.g.2
  have hAb := hw.a.2
  have hTlb := hw.tl.2
  have hNwb := hw.w.2
  refine Call.enter hok (by decide) (Nat.le_of_ble_eq_true rfl) ?_
  show G E m_X11_lost 6 0 0 _ h 0 [some (vR TH), some (vI t0), none, none, none] [] h 0 0
  refine g_aload_n (pc' := 1) dX11_lost_0 rfl rfl ?_
  refine g_iload_n (pc' := 2) dX11_lost_1 rfl rfl ?_
  rcases Classical.em (∃ j : Nat, j < nT m ∧ t0 = nI j) with w2 | w2
  ·
    have k2 := w2
    obtain ⟨t, ht, rfl⟩ := k2
    refine g_invV (pc' := 5) (cx_toyAt hok hc hw ht) dX11_lost_2 rfl rfl ck_12 rfl ml_X11_151 im_X11_toyAt sl_X11_toyAt in_X11 co_X11_toyAt pd_X11_toyAt rfl (by omega) (by decide) ⟨by decide, by decide⟩ (Nat.le_of_ble_eq_true rfl) ?_
    rintro _ _ ⟨rfl, rfl⟩ -
    refine g_astore_n (pc' := 6) dX11_lost_5 rfl (by decide) rfl ?_
    try simp only [List.set]
    refine g_aload_n (pc' := 7) dX11_lost_6 rfl rfl ?_
    refine g_aload_n (pc' := 8) dX11_lost_7 rfl rfl ?_
    rcases Classical.em (m 118 t = 1) with w8 | w8
    ·
      have hhl := Wx.hl hx ht w8 hFb
      have hf := hhl.2
      refine g_invV (pc' := 11) (cx_holderOf hok hc hw hx ht w8) dX11_lost_8 rfl rfl ck_12 rfl ml_X11_228 im_X11_holderOf sl_X11_holderOf in_X11 co_X11_holderOf pd_X11_holderOf rfl (by omega) (by decide) ⟨by decide, by decide⟩ (Nat.le_of_ble_eq_true rfl) ?_
      rintro _ _ ⟨rfl, rfl⟩ -
      refine g_astore_n (pc' := 12) dX11_lost_11 rfl (by decide) rfl ?_
      try simp only [List.set]
      refine g_aload_n (pc' := 13) dX11_lost_12 rfl rfl ?_
      refine g_ifnull (pc' := 16) dX11_lost_13 rfl ?_
      refine g_aload_n (pc' := 17) dX11_lost_16 rfl rfl ?_
      refine g_ifnonnull (tgt := 22) dX11_lost_17 (by decide) ?_
      have hkd := (hw.kd ht).2
      refine g_aload_n (pc' := 23) dX11_lost_22 rfl rfl ?_
      refine g_aload_n (pc' := 24) dX11_lost_23 rfl rfl ?_
      refine g_getR (pc' := 27) (k := 1) (r := some (2, kd m t)) dX11_lost_24 rfl rfl ck_9 (by decide) fl_X11_203 rfl ((hc.c6.2.1 _ (by omega)).1) ?_
      refine g_aload_n (pc' := 28) dX11_lost_27 rfl rfl ?_
      refine g_aload_n (pc' := 29) dX11_lost_28 rfl rfl ?_
      refine g_iconstN (n := 0) (pc' := 30) dX11_lost_29 rfl ?_
      refine g_invV (pc' := 33) (cx_writeLettersT hok hc hw hx (k := kd m t) (f := hl m t) (by omega) (by omega) (t := t) (by omega) _) dX11_lost_30 rfl rfl ck_12 rfl ml_X11_207 im_X11_writeLetters sl_X11_writeLetters in_X11 co_X11_writeLetters pd_X11_writeLetters rfl (by omega) (by decide) ⟨by decide, by decide⟩ (Nat.le_of_ble_eq_true rfl) ?_
      rintro _ h2 ⟨rfl, w2_, l2⟩ -
      obtain ⟨ti, hq2⟩ := Tq_of hs hCR w2_ l2
      have hc := hc.lw w2_
      have hs := hq2.1
      refine g_aload_n (pc' := 34) dX11_lost_33 rfl rfl ?_
      refine g_invV (pc' := 37) (cx_piecesTogether hok hc hw (t := t) (by omega)) dX11_lost_34 rfl rfl ck_9 rfl ml_X11_253 im_X8_piecesTogether sl_X8_piecesTogether in_X8 co_X8_piecesTogether pd_X8_piecesTogether rfl (by omega) (by decide) ⟨by decide, by decide⟩ (Nat.le_of_ble_eq_true rfl) ?_
      rintro _ _ ⟨rfl, rfl⟩ -
      refine g_aload_n (pc' := 38) dX11_lost_37 rfl rfl ?_
      refine g_getS (pc' := 41) (k := 14) (b := (7, 0)) dX11_lost_38 rfl rfl ck_12 (by decide) fl_X11_56 rfl hs rfl ?_
      refine g_bipushN (n := 112) (pc' := 43) dX11_lost_41 rfl (by decide) ?_
      refine g_iconstN (n := 0) (pc' := 44) dX11_lost_43 rfl ?_
      refine g_iconstN (n := 0) (pc' := 45) dX11_lost_44 rfl ?_
      refine g_ldcw (pc' := 48) dX11_lost_45 rfl kc_X11_256 ?_
      refine g_invV (pc' := 51) (cx_firstValue hok hw hq2 _ _ _ _ (by decide) (Or.inr (Or.inr (Or.inl rfl)))) dX11_lost_48 rfl rfl ck_6 rfl ml_X11_211 im_X5_firstValue sl_X5_firstValue in_X5 co_X5_firstValue pd_X5_firstValue rfl (by omega) (by decide) ⟨by decide, by decide⟩ (Nat.le_of_ble_eq_true rfl) ?_
      rintro _ h3 ⟨rfl, w3⟩ -
      have hc := hc.rk w3
      have hs := hc.s
      refine g_imul (pc' := 52) dX11_lost_51 rfl ?_
      refine g_istore (pc' := 54) dX11_lost_52 rfl (by decide) rfl ?_
      try simp only [List.set]
      refine g_aload_n (pc' := 55) dX11_lost_54 rfl rfl ?_
      refine g_dup (pc' := 56) dX11_lost_55 rfl rfl ?_
      refine g_getIv (v := m 129 (hl m t)) (pc' := 59) (k := 5) dX11_lost_56 rfl rfl ck_2 (by decide) fl_X11_257 rfl (hc.f5 (f := hl m t) (by omega)) ?_
      refine g_iload (pc' := 61) dX11_lost_59 rfl rfl ?_
      refine g_iadd (pc' := 62) dX11_lost_61 rfl ?_
      refine g_putI (pc' := 65) (k := 5) dX11_lost_62 rfl rfl ck_2 (by decide) fl_X11_257 rfl rfl rfl rfl ?_
      refine g_aload_n (pc' := 66) dX11_lost_65 rfl rfl ?_
      refine g_iconstN (n := 2) (pc' := 67) dX11_lost_66 rfl ?_
      refine g_invV (pc' := 70) (cx_leaveFamily hok _) dX11_lost_67 rfl rfl ck_9 rfl ml_X11_250 im_X8_leaveFamily sl_X8_leaveFamily in_X8 co_X8_leaveFamily pd_X8_leaveFamily rfl (by omega) (by decide) ⟨by decide, by decide⟩ (Nat.le_of_ble_eq_true rfl) ?_
      rintro _ _ ⟨rfl, rfl⟩ -
      refine g_aload_n (pc' := 71) dX11_lost_70 rfl rfl ?_
      refine g_getS (pc' := 74) (k := 15) (b := (8, 0)) dX11_lost_71 rfl rfl ck_12 (by decide) fl_X11_63 rfl hs rfl ?_
      refine g_aload_n (pc' := 75) dX11_lost_74 rfl rfl ?_
      refine g_getIv (v := nI (t)) (pc' := 78) (k := 0) dX11_lost_75 rfl rfl ck_9 (by decide) fl_X11_138 rfl (by simp [lvH, wI_at]; exact hc.t0 (t := t) ht) ?_
      refine g_aload_n (pc' := 79) dX11_lost_78 rfl rfl ?_
      refine g_getIv (v := m 1 2) (pc' := 82) (k := 0) dX11_lost_79 rfl rfl ck_12 (by decide) fl_X11_95 rfl (hc.c1.1) ?_
      refine g_aload_n (pc' := 83) dX11_lost_82 rfl rfl ?_
      refine g_getIv (v := m 1 2) (pc' := 86) (k := 0) dX11_lost_83 rfl rfl ck_12 (by decide) fl_X11_95 rfl (hc.c1.1) ?_
      refine g_aload_n (pc' := 87) dX11_lost_86 rfl rfl ?_
      refine g_getIv (v := m 1 7) (pc' := 90) (k := 2) dX11_lost_87 rfl rfl ck_12 (by decide) fl_X11_148 rfl (hc.c1.2.2.1) ?_
      refine g_iadd (pc' := 91) dX11_lost_90 rfl ?_
      refine g_bipushN (n := 20) (pc' := 93) dX11_lost_91 rfl (by decide) ?_
      refine g_invV (pc' := 96) (cx_write hok (by exact hs) (n := nA m) (by omega) (by exact hc.c10.1.trans hw.a.1) _ _ _ _) dX11_lost_93 rfl rfl ck_1 rfl ml_X11_222 im_X0_write sl_X0_write in_X0 co_X0_write pd_X0_write rfl (by omega) (by decide) ⟨by decide, by decide⟩ (Nat.le_of_ble_eq_true rfl) ?_
      rintro _ _ ⟨rfl, rfl⟩ -
      refine g_iload (pc' := 98) dX11_lost_96 rfl rfl ?_
      refine g_iret dX11_lost_98 rfl (by decide) (by decide) ?_
      have e : sLost m R (nI t) = (lostA m R t, lostS m t (lostA m R t)) := by unfold sLost; simp only [nI_clamp (show t < 2 ^ 31 by omega)]; exact cif_t ⟨w2, w8⟩
      rw [e]
      have k6 : C6 (stU (stU (stU (stU m 118 t (nI 2)) 119 t (-1)) 120 t (-1)) 123 t (m 1 2)) (lvH h3 t (nI 2)) := C6_came (C6_due (C6_holder (C6_place hc.c6 t (nI 2) (Or.inr (by decide))) t _) t _) t _ (by simp [stU_at]; decide)
      have k8 := C8_owed hc.c8 (hl m t) (m 129 (hl m t) + lostA m R t)
      have k10 := C10_wrt hc.c10 (t := nI t) (w := nI 20) hAb
      have k11 := C11_wrt (h' := h3) (t := nI t) (w := nI 20) hc.c11 hAb (fun _ => rfl) rfl
      refine ⟨rfl, ?_, ?_⟩
      · exact Cp.upd hc rfl (hc.c1) (hc.c2) (C6.same k6 rfl (fun _ => rfl) (fun _ => rfl) (fun _ => rfl) rfl rfl rfl rfl rfl rfl rfl rfl rfl rfl rfl rfl) (C7.same hc.c7 (fun u => by simp [lvH, dwH, wI_at]) (fun _ => rfl) (fun _ => rfl) rfl rfl rfl rfl rfl) (C8.same k8 rfl (fun _ _ _ => rfl) (fun _ => rfl) (fun _ => rfl) rfl rfl rfl rfl rfl rfl) (C10.same k10 (fun _ => rfl) rfl rfl (fun _ => rfl) (fun _ => rfl) (fun _ => rfl) (fun _ => rfl) rfl rfl rfl rfl rfl) (C11.same k11 rfl rfl rfl rfl rfl rfl (fun _ => by simp [lvH, dwH, wI_at]) rfl) (hc.c13) (fun _ => rfl) (fun _ => rfl) (fun _ => rfl) (fun _ => rfl) (fun _ => rfl) (fun _ => rfl) (fun _ => rfl) (fun _ => rfl) (fun _ => rfl) (fun _ => rfl) (fun _ => rfl) (fun _ => rfl) (fun _ => rfl) (fun _ => rfl) (fun _ => rfl) rfl rfl rfl rfl rfl rfl rfl rfl rfl rfl rfl rfl rfl rfl rfl rfl rfl rfl rfl rfl rfl rfl rfl rfl
      · refine (mo_same (fun b q => ?_)).trans (w3.mo.trans w2_.mo)
        have ne : ∀ s, kS s = 0 → ∀ i, b ≠ (s, i) := fun s z i y => by rw [y] at q; exact q z
        unfold dwH lvH
        rw [wI_off _ _ _ _ b (ne 8 rfl 0), wI_off _ _ _ _ b (ne 34 rfl 0), wI_off _ _ _ _ b (ne 33 rfl 0), wI_off _ _ _ _ b (ne 32 rfl 0), wI_off _ _ _ _ b (ne 31 rfl 0), wI_off _ _ _ _ b (ne 3 rfl t), wI_off _ _ _ _ b (ne 3 rfl t), wI_off _ _ _ _ b (ne 3 rfl t), wI_off _ _ _ _ b (ne 4 rfl (hl m t))]
    ·
      refine g_invV (pc' := 11) (cx_holderOfN hok hc hw ht w8) dX11_lost_8 rfl rfl ck_12 rfl ml_X11_228 im_X11_holderOf sl_X11_holderOf in_X11 co_X11_holderOf pd_X11_holderOf rfl (by omega) (by decide) ⟨by decide, by decide⟩ (Nat.le_of_ble_eq_true rfl) ?_
      rintro _ _ ⟨rfl, rfl⟩ -
      refine g_astore_n (pc' := 12) dX11_lost_11 rfl (by decide) rfl ?_
      try simp only [List.set]
      refine g_aload_n (pc' := 13) dX11_lost_12 rfl rfl ?_
      refine g_ifnull (pc' := 16) dX11_lost_13 rfl ?_
      refine g_aload_n (pc' := 17) dX11_lost_16 rfl rfl ?_
      refine g_ifnonnullN (pc' := 20) dX11_lost_17 rfl ?_
      refine g_iconst (v := -1) (pc' := 21) dX11_lost_20 rfl (by decide) ?_
      refine g_iret dX11_lost_21 rfl (by decide) (by decide) ?_
      have e : sLost m R (nI t) = (-1, m) := by unfold sLost; simp only [nI_clamp (show t < 2 ^ 31 by omega)]; exact cif_f (fun z => w8 z.2)
      rw [e]
      exact ⟨rfl, hc, rfl⟩
  ·
    refine g_invV (pc' := 5) (cx_toyAtN hok hc hw w2) dX11_lost_2 rfl rfl ck_12 rfl ml_X11_151 im_X11_toyAt sl_X11_toyAt in_X11 co_X11_toyAt pd_X11_toyAt rfl (by omega) (by decide) ⟨by decide, by decide⟩ (Nat.le_of_ble_eq_true rfl) ?_
    rintro _ _ ⟨rfl, rfl⟩ -
    refine g_astore_n (pc' := 6) dX11_lost_5 rfl (by decide) rfl ?_
    try simp only [List.set]
    refine g_aload_n (pc' := 7) dX11_lost_6 rfl rfl ?_
    refine g_aload_n (pc' := 8) dX11_lost_7 rfl rfl ?_
    refine g_invV (pc' := 11) (cx_holderOf0 hok hc hw) dX11_lost_8 rfl rfl ck_12 rfl ml_X11_228 im_X11_holderOf sl_X11_holderOf in_X11 co_X11_holderOf pd_X11_holderOf rfl (by omega) (by decide) ⟨by decide, by decide⟩ (Nat.le_of_ble_eq_true rfl) ?_
    rintro _ _ ⟨rfl, rfl⟩ -
    refine g_astore_n (pc' := 12) dX11_lost_11 rfl (by decide) rfl ?_
    try simp only [List.set]
    refine g_aload_n (pc' := 13) dX11_lost_12 rfl rfl ?_
    refine g_ifnullN (tgt := 20) dX11_lost_13 (by decide) ?_
    refine g_iconst (v := -1) (pc' := 21) dX11_lost_20 rfl (by decide) ?_
    refine g_iret dX11_lost_21 rfl (by decide) (by decide) ?_
    have e : sLost m R t0 = (-1, m) := cif_f (fun z => w2 z.1)
    rw [e]
    exact ⟨rfl, hc, rfl⟩
set_option maxRecDepth 4000 in
theorem cx_turnOf {E : En} (hok : EOK E) {h : Hp} {m : St} (hc : Cp m h) (hw : Wf m) (hx : Wx m) {R : Rm} (hCR : CR m h R) {k f : Nat} (hk : k < nK m) (hf : f < nF m) : Call E m_X11_turnOf 5 0 0 [vR TH, vR (4, f), vR (2, k)] h (fun r h' => r = some (vI (tnF m R k f)) ∧ Sx h h') := by
  have hs := hc.s
  have hKb := hw.k.2
  have hTb := hw.t.2
  have hFb := hw.f.2
  have hRb := hw.r.2
  have hGb := hw.g.2
  have hAb := hw.a.2
  have hTlb := hw.tl.2
  have hNwb := hw.w.2
  refine Call.enter hok (by decide) (Nat.le_of_ble_eq_true rfl) ?_
  show G E m_X11_turnOf 5 0 0 _ h 0 [some (vR TH), some (vR (4, f)), some (vR (2, k))] [] h 0 0
  refine g_aload_n (pc' := 1) dX11_turnOf_0 rfl rfl ?_
  refine g_aload_n (pc' := 2) dX11_turnOf_1 rfl rfl ?_
  refine g_null (pc' := 3) dX11_turnOf_2 rfl ?_
  refine g_aload_n (pc' := 4) dX11_turnOf_3 rfl rfl ?_
  refine g_iconstN (n := 0) (pc' := 5) dX11_turnOf_4 rfl ?_
  refine g_invV (pc' := 8) (cx_writeLettersN hok hc hw hx (k := k) (f := f) (by omega) (by omega) _) dX11_turnOf_5 rfl rfl ck_12 rfl ml_X11_207 im_X11_writeLetters sl_X11_writeLetters in_X11 co_X11_writeLetters pd_X11_writeLetters rfl (by omega) (by decide) ⟨by decide, by decide⟩ (Nat.le_of_ble_eq_true rfl) ?_
  rintro _ h2 ⟨rfl, w2_, l2⟩ -
  obtain ⟨ti, hq2⟩ := Tq_of hs hCR w2_ l2
  have hc := hc.lw w2_
  have hs := hq2.1
  refine g_aload_n (pc' := 9) dX11_turnOf_8 rfl rfl ?_
  refine g_getS (pc' := 12) (k := 14) (b := (7, 0)) dX11_turnOf_9 rfl rfl ck_12 (by decide) fl_X11_56 rfl hs rfl ?_
  refine g_bipushN (n := 110) (pc' := 14) dX11_turnOf_12 rfl (by decide) ?_
  refine g_iconstN (n := 0) (pc' := 15) dX11_turnOf_14 rfl ?_
  refine g_ldcw (pc' := 18) dX11_turnOf_15 rfl kc_X11_504 ?_
  refine g_ldcw (pc' := 21) dX11_turnOf_18 rfl kc_X11_256 ?_
  refine g_invV (pc' := 24) (cx_firstValue hok hw hq2 _ _ _ _ (by decide) (Or.inr (Or.inr (Or.inr rfl)))) dX11_turnOf_21 rfl rfl ck_6 rfl ml_X11_211 im_X5_firstValue sl_X5_firstValue in_X5 co_X5_firstValue pd_X5_firstValue rfl (by omega) (by decide) ⟨by decide, by decide⟩ (Nat.le_of_ble_eq_true rfl) ?_
  rintro _ h3 ⟨rfl, w3⟩ -
  have hc := hc.rk w3
  have hs := hc.s
  refine g_iret dX11_turnOf_24 rfl (by decide) (by decide) ?_
  exact ⟨rfl, w2_.sx.tr w3.sx⟩
theorem nxF_w (m : St) (R : Rm) (k : Nat) : ∀ n j, j < n → (nxF m R k n).1 = nI j → n ≤ 10 → (¬ m 186 (8 * j + k) = -1) ∧ (nxF m R k n).2 = tnF m R k j
  | 0, _, q, _, _ => absurd q (Nat.not_lt_zero _)
  | n + 1, j, hj, e, hn => by
    have hr : ∀ i, i < n → (nxF m R k n).1 = nI i → (¬ m 186 (8 * i + k) = -1) ∧ (nxF m R k n).2 = tnF m R k i := fun i hi ei => nxF_w m R k n i hi ei (by omega)
    have hs : (nxF m R k n).1 = nI j → (¬ m 186 (8 * j + k) = -1) ∧ (nxF m R k n).2 = tnF m R k j := fun z => by
      rcases nxF_1 m R k n with y | ⟨i, hi, y⟩
      · rw [z] at y
        exact absurd y (nI_ne_neg (by omega))
      · have : i = j := by
          rw [z] at y
          exact ((nI_eq (by omega) (by omega)).mp y).symm
        subst this
        exact hr i hi z
    by_cases q : m 186 (8 * n + k) = -1
    · have e2 : nxF m R k (n + 1) = nxF m R k n := cif_t q
      rw [e2] at e ⊢
      exact hs e
    · by_cases z : (nxF m R k n).1 = -1 ∨ (nxF m R k n).2 < tnF m R k n ∨ (tnF m R k n = (nxF m R k n).2 ∧ m 186 (8 * n + k) < m 186 (8 * (nxF m R k n).1.toNatClampNeg + k))
      · have e2 : nxF m R k (n + 1) = (nI n, tnF m R k n) := (cif_f q).trans (cif_t z)
        rw [e2] at e ⊢
        have : n = j := (nI_eq (by omega) (by omega)).mp e
        subst this
        exact ⟨q, rfl⟩
      · have e2 : nxF m R k (n + 1) = nxF m R k n := (cif_f q).trans (cif_f z)
        rw [e2] at e ⊢
        exact hs e
theorem days_iff {w a b : Int32} {W : Nat} (hw : w = nI W) (hW : W ≤ 699) (ha : 0 ≤ a ∧ a ≤ 699) (hb : 0 ≤ b ∧ b ≤ 699) : w - a ≤ w - b ↔ b ≤ a := by
  obtain ⟨A, hA, rfl⟩ := rng (n := 699) rfl (by decide) ha
  obtain ⟨B, hB, rfl⟩ := rng (n := 699) rfl (by decide) hb
  subst hw
  rw [Int32.le_iff_toInt_le, Int32.le_iff_toInt_le, pk_sub_toInt (by omega) (by omega), pk_sub_toInt (by omega) (by omega), nI_toInt (by omega), nI_toInt (by omega)]
  omega
/-- a family's name, or none -/
def frf (x : Int32) : V := if x = -1 then vN else vR (4, x.toNatClampNeg)
theorem frf_n {x : Int32} (q : x = -1) : frf x = vN := if_pos q
theorem frf_s {x : Int32} {j : Nat} (hj : j < 2 ^ 31) (q : x = nI j) : frf x = vR (4, j) := by
  unfold frf
  rw [if_neg (by rw [q]; exact nI_ne_neg hj), q, nI_clamp hj]
theorem frf_L {x : Int32} : isL (frf x) = false := by
  unfold frf
  split <;> rfl
set_option maxRecDepth 4000 in
theorem lx_firstInTurn {E : En} (hok : EOK E) {h h0 : Hp} {m : St} (hc0 : Cp m h) (hw : Wf m) (hx : Wx m) {R : Rm} (hCR0 : CR m h R) {k : Nat} (hk : k < nK m) {d : Nat} (hd : 6 ≤ d) {Q : Option V → Hp → Prop} (hQ : ∀ h', Sx h h' → Q (some (frf (nxF m R k (nF m)).1)) h') : ∀ n f h1, f ≤ nF m → nF m - f = n → Sx h h1 → G E m_X11_firstInTurn d 0 0 Q h0 7 [some (vR TH), some (vR (2, k)), some (frf (nxF m R k f).1), some (vI (nxF m R k f).2), some (vI (nI f)), none, none, none, none] [] h1 0 0 := by
  have hKb := hw.k.2
  have hTb := hw.t.2
  have hFb := hw.f.2
  have hRb := hw.r.2
  have hGb := hw.g.2
  have hAb := hw.a.2
  have hTlb := hw.tl.2
  have hNwb := hw.w.2
  intro n
  induction n with
  | zero =>
    intro f h1 g1 g2 s1
    have hc := hc0.sx s1
    have hCR := hCR0.sx s1
    have hs := hc.s
    rcases nxF_1 m R k f with eb | ⟨j, hj, eb⟩
    · rw [frf_n eb]
      refine g_iload (pc' := 9) dX11_firstInTurn_7 rfl rfl ?_
      refine g_aload_n (pc' := 10) dX11_firstInTurn_9 rfl rfl ?_
      refine g_getS (pc' := 13) (k := 12) (b := (13, 2)) dX11_firstInTurn_10 rfl rfl ck_12 (by decide) fl_X11_38 rfl hs rfl ?_
      refine g_invV (pc' := 16) (ls_size hok hc.c8.1) dX11_firstInTurn_13 rfl rfl ck_0 rfl ml_X11_103 im_Jx4a65c_size_8abf5 sl_Jx4a65c_size_8abf5 in_Jx4a65c co_Jx4a65c_size_8abf5 pd_Jx4a65c_size_8abf5 rfl (by omega) (by decide) ⟨by decide, by decide⟩ (Nat.le_of_ble_eq_true rfl) ?_
      rintro _ _ ⟨rfl, rfl⟩ -
      refine g_icmp_geN (tgt := 138) (pc' := 19) dX11_firstInTurn_16 rfl (by decide) (by omega) (by omega) (fun c16 => ?_) (fun c16 => ?_)
      ·
        refine g_aload_n (pc' := 139) dX11_firstInTurn_138 rfl rfl ?_
        refine g_aret dX11_firstInTurn_139 rfl (by first | exact Or.inl ⟨_, rfl⟩ | exact Or.inr ⟨_, rfl⟩) (by decide) (by decide) ?_
        have e : f = nF m := by omega
        subst e
        have q := hQ h1 s1
        rw [frf_n eb] at q
        exact q
      · exact absurd c16 (by omega)
    · rw [frf_s (by omega) eb]
      have wj := nxF_w m R k f j hj eb (by omega)
      refine g_iload (pc' := 9) dX11_firstInTurn_7 rfl rfl ?_
      refine g_aload_n (pc' := 10) dX11_firstInTurn_9 rfl rfl ?_
      refine g_getS (pc' := 13) (k := 12) (b := (13, 2)) dX11_firstInTurn_10 rfl rfl ck_12 (by decide) fl_X11_38 rfl hs rfl ?_
      refine g_invV (pc' := 16) (ls_size hok hc.c8.1) dX11_firstInTurn_13 rfl rfl ck_0 rfl ml_X11_103 im_Jx4a65c_size_8abf5 sl_Jx4a65c_size_8abf5 in_Jx4a65c co_Jx4a65c_size_8abf5 pd_Jx4a65c_size_8abf5 rfl (by omega) (by decide) ⟨by decide, by decide⟩ (Nat.le_of_ble_eq_true rfl) ?_
      rintro _ _ ⟨rfl, rfl⟩ -
      refine g_icmp_geN (tgt := 138) (pc' := 19) dX11_firstInTurn_16 rfl (by decide) (by omega) (by omega) (fun c16 => ?_) (fun c16 => ?_)
      ·
        refine g_aload_n (pc' := 139) dX11_firstInTurn_138 rfl rfl ?_
        refine g_aret dX11_firstInTurn_139 rfl (by first | exact Or.inl ⟨_, rfl⟩ | exact Or.inr ⟨_, rfl⟩) (by decide) (by decide) ?_
        have e : f = nF m := by omega
        subst e
        have q := hQ h1 s1
        rw [frf_s (by omega) eb] at q
        exact q
      · exact absurd c16 (by omega)
  | succ n ih =>
    intro f h1 g1 g2 s1
    have hc := hc0.sx s1
    have hCR := hCR0.sx s1
    have hs := hc.s
    rcases nxF_1 m R k f with eb | ⟨j, hj, eb⟩
    · rw [frf_n eb]
      refine g_iload (pc' := 9) dX11_firstInTurn_7 rfl rfl ?_
      refine g_aload_n (pc' := 10) dX11_firstInTurn_9 rfl rfl ?_
      refine g_getS (pc' := 13) (k := 12) (b := (13, 2)) dX11_firstInTurn_10 rfl rfl ck_12 (by decide) fl_X11_38 rfl hs rfl ?_
      refine g_invV (pc' := 16) (ls_size hok hc.c8.1) dX11_firstInTurn_13 rfl rfl ck_0 rfl ml_X11_103 im_Jx4a65c_size_8abf5 sl_Jx4a65c_size_8abf5 in_Jx4a65c co_Jx4a65c_size_8abf5 pd_Jx4a65c_size_8abf5 rfl (by omega) (by decide) ⟨by decide, by decide⟩ (Nat.le_of_ble_eq_true rfl) ?_
      rintro _ _ ⟨rfl, rfl⟩ -
      refine g_icmp_geN (tgt := 138) (pc' := 19) dX11_firstInTurn_16 rfl (by decide) (by omega) (by omega) (fun c16 => ?_) (fun c16 => ?_)
      · exact absurd c16 (by omega)
      ·
        refine g_aload_n (pc' := 20) dX11_firstInTurn_19 rfl rfl ?_
        refine g_getS (pc' := 23) (k := 12) (b := (13, 2)) dX11_firstInTurn_20 rfl rfl ck_12 (by decide) fl_X11_38 rfl hs rfl ?_
        refine g_iload (pc' := 25) dX11_firstInTurn_23 rfl rfl ?_
        refine g_invV (pc' := 28) (ls_get hok hc.c8.1 (j := f) (by omega) (by omega)) dX11_firstInTurn_25 rfl rfl ck_0 rfl ml_X11_324 im_Jx4a65c_get_915e3 sl_Jx4a65c_get_915e3 in_Jx4a65c co_Jx4a65c_get_915e3 pd_Jx4a65c_get_915e3 rfl (by omega) (by decide) ⟨by decide, by decide⟩ (Nat.le_of_ble_eq_true rfl) ?_
        rintro _ _ ⟨rfl, rfl⟩ -
        refine g_cast (pc' := 31) dX11_firstInTurn_28 rfl rfl ck_2 cl_X11_139 ?_
        refine g_astore (pc' := 33) dX11_firstInTurn_31 rfl (by decide) rfl ?_
        try simp only [List.set]
        refine g_aload (pc' := 35) dX11_firstInTurn_33 rfl rfl ?_
        refine g_aload_n (pc' := 36) dX11_firstInTurn_35 rfl rfl ?_
        refine g_getIv (v := nI (k)) (pc' := 39) (k := 0) dX11_firstInTurn_36 rfl rfl ck_3 (by decide) fl_X11_116 rfl (hc.k0 (k := k) (by omega)) ?_
        refine g_invV (pc' := 42) (cx_isWaiting hok hc (f := f) (k := k) (by omega) (by omega)) dX11_firstInTurn_39 rfl rfl ck_2 rfl ml_X11_335 im_X1_isWaiting sl_X1_isWaiting in_X1 co_X1_isWaiting pd_X1_isWaiting rfl (by omega) (by decide) ⟨by decide, by decide⟩ (Nat.le_of_ble_eq_true rfl) ?_
        rintro _ _ ⟨rfl, rfl⟩ -
        refine g_ifB_eq (tgt := 132) (pc' := 45) dX11_firstInTurn_42 rfl (by decide) (fun c42 => ?_) (fun c42 => ?_)
        ·
          refine g_iincN (k := 1) (pc' := 135) dX11_firstInTurn_132 rfl rfl (by decide) rfl ?_
          try simp only [List.set]
          refine g_goto (tgt := 7) dX11_firstInTurn_135 (by decide) ?_
          refine G.drop 5 ?_
          simp only [List.set]
          have q := ih (f + 1) h1 (by omega) (by omega) s1
          rw [show nxF m R k (f + 1) = nxF m R k f from cif_t (Classical.not_not.mp c42), frf_n eb] at q
          exact q
        ·
          refine g_aload_n (pc' := 46) dX11_firstInTurn_45 rfl rfl ?_
          refine g_aload (pc' := 48) dX11_firstInTurn_46 rfl rfl ?_
          refine g_aload_n (pc' := 49) dX11_firstInTurn_48 rfl rfl ?_
          refine g_invV (pc' := 52) (cx_turnOf hok hc hw hx hCR (k := k) (f := f) (by omega) (by omega)) dX11_firstInTurn_49 rfl rfl ck_12 rfl ml_X11_354 im_X11_turnOf sl_X11_turnOf in_X11 co_X11_turnOf pd_X11_turnOf rfl (by omega) (by decide) ⟨by decide, by decide⟩ (Nat.le_of_ble_eq_true rfl) ?_
          rintro _ h2 ⟨rfl, s2⟩ -
          have hc := hc.sx s2
          have hCR := hCR.sx s2
          have hs := hc.s
          refine g_istore (pc' := 54) dX11_firstInTurn_52 rfl (by decide) rfl ?_
          try simp only [List.set]
          refine g_aload_n (pc' := 55) dX11_firstInTurn_54 rfl rfl ?_
          refine g_ifnullN (tgt := 68) dX11_firstInTurn_55 (by decide) ?_
          refine g_iconstN (n := 0) (pc' := 69) dX11_firstInTurn_68 rfl ?_
          refine g_istore (pc' := 71) dX11_firstInTurn_69 rfl (by decide) rfl ?_
          try simp only [List.set]
          refine g_iload (pc' := 73) dX11_firstInTurn_71 rfl rfl ?_
          refine g_if_eqN (tgt := 108) (pc' := 76) dX11_firstInTurn_73 rfl (by decide) (by decide) (fun _ => ?_) (fun q => False.elim (by revert q; decide))
          refine g_iconstN (n := 0) (pc' := 109) dX11_firstInTurn_108 rfl ?_
          refine g_istore (pc' := 111) dX11_firstInTurn_109 rfl (by decide) rfl ?_
          try simp only [List.set]
          refine g_aload_n (pc' := 112) dX11_firstInTurn_111 rfl rfl ?_
          refine g_ifnullN (tgt := 126) dX11_firstInTurn_112 (by decide) ?_
          refine g_aload (pc' := 128) dX11_firstInTurn_126 rfl rfl ?_
          refine g_astore_n (pc' := 129) dX11_firstInTurn_128 rfl (by decide) rfl ?_
          try simp only [List.set]
          refine g_iload (pc' := 131) dX11_firstInTurn_129 rfl rfl ?_
          refine g_istore_n (pc' := 132) dX11_firstInTurn_131 rfl (by decide) rfl ?_
          try simp only [List.set]
          refine g_iincN (k := 1) (pc' := 135) dX11_firstInTurn_132 rfl rfl (by decide) rfl ?_
          try simp only [List.set]
          refine g_goto (tgt := 7) dX11_firstInTurn_135 (by decide) ?_
          refine G.drop 5 ?_
          refine G.drop 6 ?_
          refine G.drop 7 ?_
          refine G.drop 8 ?_
          simp only [List.set]
          have q := ih (f + 1) h2 (by omega) (by omega) (s1.tr s2)
          rw [show nxF m R k (f + 1) = (nI f, tnF m R k f) from (cif_f c42).trans (cif_t (Or.inl eb)), frf_s (show f < 2 ^ 31 by omega) rfl] at q
          exact q
    · rw [frf_s (by omega) eb]
      have wj := nxF_w m R k f j hj eb (by omega)
      refine g_iload (pc' := 9) dX11_firstInTurn_7 rfl rfl ?_
      refine g_aload_n (pc' := 10) dX11_firstInTurn_9 rfl rfl ?_
      refine g_getS (pc' := 13) (k := 12) (b := (13, 2)) dX11_firstInTurn_10 rfl rfl ck_12 (by decide) fl_X11_38 rfl hs rfl ?_
      refine g_invV (pc' := 16) (ls_size hok hc.c8.1) dX11_firstInTurn_13 rfl rfl ck_0 rfl ml_X11_103 im_Jx4a65c_size_8abf5 sl_Jx4a65c_size_8abf5 in_Jx4a65c co_Jx4a65c_size_8abf5 pd_Jx4a65c_size_8abf5 rfl (by omega) (by decide) ⟨by decide, by decide⟩ (Nat.le_of_ble_eq_true rfl) ?_
      rintro _ _ ⟨rfl, rfl⟩ -
      refine g_icmp_geN (tgt := 138) (pc' := 19) dX11_firstInTurn_16 rfl (by decide) (by omega) (by omega) (fun c16 => ?_) (fun c16 => ?_)
      · exact absurd c16 (by omega)
      ·
        refine g_aload_n (pc' := 20) dX11_firstInTurn_19 rfl rfl ?_
        refine g_getS (pc' := 23) (k := 12) (b := (13, 2)) dX11_firstInTurn_20 rfl rfl ck_12 (by decide) fl_X11_38 rfl hs rfl ?_
        refine g_iload (pc' := 25) dX11_firstInTurn_23 rfl rfl ?_
        refine g_invV (pc' := 28) (ls_get hok hc.c8.1 (j := f) (by omega) (by omega)) dX11_firstInTurn_25 rfl rfl ck_0 rfl ml_X11_324 im_Jx4a65c_get_915e3 sl_Jx4a65c_get_915e3 in_Jx4a65c co_Jx4a65c_get_915e3 pd_Jx4a65c_get_915e3 rfl (by omega) (by decide) ⟨by decide, by decide⟩ (Nat.le_of_ble_eq_true rfl) ?_
        rintro _ _ ⟨rfl, rfl⟩ -
        refine g_cast (pc' := 31) dX11_firstInTurn_28 rfl rfl ck_2 cl_X11_139 ?_
        refine g_astore (pc' := 33) dX11_firstInTurn_31 rfl (by decide) rfl ?_
        try simp only [List.set]
        refine g_aload (pc' := 35) dX11_firstInTurn_33 rfl rfl ?_
        refine g_aload_n (pc' := 36) dX11_firstInTurn_35 rfl rfl ?_
        refine g_getIv (v := nI (k)) (pc' := 39) (k := 0) dX11_firstInTurn_36 rfl rfl ck_3 (by decide) fl_X11_116 rfl (hc.k0 (k := k) (by omega)) ?_
        refine g_invV (pc' := 42) (cx_isWaiting hok hc (f := f) (k := k) (by omega) (by omega)) dX11_firstInTurn_39 rfl rfl ck_2 rfl ml_X11_335 im_X1_isWaiting sl_X1_isWaiting in_X1 co_X1_isWaiting pd_X1_isWaiting rfl (by omega) (by decide) ⟨by decide, by decide⟩ (Nat.le_of_ble_eq_true rfl) ?_
        rintro _ _ ⟨rfl, rfl⟩ -
        refine g_ifB_eq (tgt := 132) (pc' := 45) dX11_firstInTurn_42 rfl (by decide) (fun c42 => ?_) (fun c42 => ?_)
        ·
          refine g_iincN (k := 1) (pc' := 135) dX11_firstInTurn_132 rfl rfl (by decide) rfl ?_
          try simp only [List.set]
          refine g_goto (tgt := 7) dX11_firstInTurn_135 (by decide) ?_
          refine G.drop 5 ?_
          simp only [List.set]
          have q := ih (f + 1) h1 (by omega) (by omega) s1
          rw [show nxF m R k (f + 1) = nxF m R k f from cif_t (Classical.not_not.mp c42), frf_s (by omega) eb] at q
          exact q
        ·
          refine g_aload_n (pc' := 46) dX11_firstInTurn_45 rfl rfl ?_
          refine g_aload (pc' := 48) dX11_firstInTurn_46 rfl rfl ?_
          refine g_aload_n (pc' := 49) dX11_firstInTurn_48 rfl rfl ?_
          refine g_invV (pc' := 52) (cx_turnOf hok hc hw hx hCR (k := k) (f := f) (by omega) (by omega)) dX11_firstInTurn_49 rfl rfl ck_12 rfl ml_X11_354 im_X11_turnOf sl_X11_turnOf in_X11 co_X11_turnOf pd_X11_turnOf rfl (by omega) (by decide) ⟨by decide, by decide⟩ (Nat.le_of_ble_eq_true rfl) ?_
          rintro _ h2 ⟨rfl, s2⟩ -
          have hc := hc.sx s2
          have hCR := hCR.sx s2
          have hs := hc.s
          refine g_istore (pc' := 54) dX11_firstInTurn_52 rfl (by decide) rfl ?_
          try simp only [List.set]
          refine g_aload_n (pc' := 55) dX11_firstInTurn_54 rfl rfl ?_
          refine g_ifnull (pc' := 58) dX11_firstInTurn_55 rfl ?_
          refine g_iload (pc' := 60) dX11_firstInTurn_58 rfl rfl ?_
          refine g_iload_n (pc' := 61) dX11_firstInTurn_60 rfl rfl ?_
          refine g_icmp_ne (tgt := 68) (pc' := 64) dX11_firstInTurn_61 rfl (by decide) (fun c61 => ?_) (fun c61 => ?_)
          ·
            refine g_iconstN (n := 0) (pc' := 69) dX11_firstInTurn_68 rfl ?_
            refine g_istore (pc' := 71) dX11_firstInTurn_69 rfl (by decide) rfl ?_
            try simp only [List.set]
            refine g_iload (pc' := 73) dX11_firstInTurn_71 rfl rfl ?_
            refine g_if_eqN (tgt := 108) (pc' := 76) dX11_firstInTurn_73 rfl (by decide) (by decide) (fun _ => ?_) (fun q => False.elim (by revert q; decide))
            refine g_iconstN (n := 0) (pc' := 109) dX11_firstInTurn_108 rfl ?_
            refine g_istore (pc' := 111) dX11_firstInTurn_109 rfl (by decide) rfl ?_
            try simp only [List.set]
            refine g_aload_n (pc' := 112) dX11_firstInTurn_111 rfl rfl ?_
            refine g_ifnull (pc' := 115) dX11_firstInTurn_112 rfl ?_
            refine g_iload (pc' := 117) dX11_firstInTurn_115 rfl rfl ?_
            refine g_iload_n (pc' := 118) dX11_firstInTurn_117 rfl rfl ?_
            refine g_icmp_gt (tgt := 126) (pc' := 121) dX11_firstInTurn_118 rfl (by decide) (fun c118 => ?_) (fun c118 => ?_)
            ·
              refine g_aload (pc' := 128) dX11_firstInTurn_126 rfl rfl ?_
              refine g_astore_n (pc' := 129) dX11_firstInTurn_128 rfl (by decide) rfl ?_
              try simp only [List.set]
              refine g_iload (pc' := 131) dX11_firstInTurn_129 rfl rfl ?_
              refine g_istore_n (pc' := 132) dX11_firstInTurn_131 rfl (by decide) rfl ?_
              try simp only [List.set]
              refine g_iincN (k := 1) (pc' := 135) dX11_firstInTurn_132 rfl rfl (by decide) rfl ?_
              try simp only [List.set]
              refine g_goto (tgt := 7) dX11_firstInTurn_135 (by decide) ?_
              refine G.drop 5 ?_
              refine G.drop 6 ?_
              refine G.drop 7 ?_
              refine G.drop 8 ?_
              simp only [List.set]
              have q := ih (f + 1) h2 (by omega) (by omega) (s1.tr s2)
              rw [show nxF m R k (f + 1) = (nI f, tnF m R k f) from (cif_f c42).trans (cif_t (Or.inr (Or.inl c118))), frf_s (show f < 2 ^ 31 by omega) rfl] at q
              exact q
            ·
              refine g_iload (pc' := 123) dX11_firstInTurn_121 rfl rfl ?_
              refine g_if_eqN (tgt := 132) (pc' := 126) dX11_firstInTurn_123 rfl (by decide) (by decide) (fun _ => ?_) (fun q => False.elim (by revert q; decide))
              refine g_iincN (k := 1) (pc' := 135) dX11_firstInTurn_132 rfl rfl (by decide) rfl ?_
              try simp only [List.set]
              refine g_goto (tgt := 7) dX11_firstInTurn_135 (by decide) ?_
              refine G.drop 5 ?_
              refine G.drop 6 ?_
              refine G.drop 7 ?_
              refine G.drop 8 ?_
              simp only [List.set]
              have q := ih (f + 1) h2 (by omega) (by omega) (s1.tr s2)
              rw [show nxF m R k (f + 1) = nxF m R k f from (cif_f c42).trans (cif_f (fun z => by rcases z with z | z | z; rw [eb] at z; exact nI_ne_neg (by omega) z; exact c118 z; exact c61 z.1)), frf_s (by omega) eb] at q
              exact q
          ·
            refine g_iconstN (n := 1) (pc' := 65) dX11_firstInTurn_64 rfl ?_
            refine g_goto (tgt := 69) dX11_firstInTurn_65 (by decide) ?_
            refine g_istore (pc' := 71) dX11_firstInTurn_69 rfl (by decide) rfl ?_
            try simp only [List.set]
            refine g_iload (pc' := 73) dX11_firstInTurn_71 rfl rfl ?_
            refine g_if_eqN (tgt := 108) (pc' := 76) dX11_firstInTurn_73 rfl (by decide) (by decide) (fun q => False.elim (by revert q; decide)) (fun _ => ?_)
            refine g_aload (pc' := 78) dX11_firstInTurn_76 rfl rfl ?_
            refine g_aload_n (pc' := 79) dX11_firstInTurn_78 rfl rfl ?_
            refine g_getIv (v := nI (k)) (pc' := 82) (k := 0) dX11_firstInTurn_79 rfl rfl ck_3 (by decide) fl_X11_116 rfl (hc.k0 (k := k) (by omega)) ?_
            refine g_aload_n (pc' := 83) dX11_firstInTurn_82 rfl rfl ?_
            refine g_getIv (v := m 1 2) (pc' := 86) (k := 0) dX11_firstInTurn_83 rfl rfl ck_12 (by decide) fl_X11_95 rfl (hc.c1.1) ?_
            refine g_invV (pc' := 89) (cx_daysWaited hok hc hw (f := f) (k := k) (by omega) (by omega) _) dX11_firstInTurn_86 rfl rfl ck_2 rfl ml_X11_480 im_X1_daysWaited sl_X1_daysWaited in_X1 co_X1_daysWaited pd_X1_daysWaited rfl (by omega) (by decide) ⟨by decide, by decide⟩ (Nat.le_of_ble_eq_true rfl) ?_
            rintro _ _ ⟨rfl, rfl⟩ -
            refine g_aload_n (pc' := 90) dX11_firstInTurn_89 rfl rfl ?_
            refine g_aload_n (pc' := 91) dX11_firstInTurn_90 rfl rfl ?_
            refine g_getIv (v := nI (k)) (pc' := 94) (k := 0) dX11_firstInTurn_91 rfl rfl ck_3 (by decide) fl_X11_116 rfl (hc.k0 (k := k) (by omega)) ?_
            refine g_aload_n (pc' := 95) dX11_firstInTurn_94 rfl rfl ?_
            refine g_getIv (v := m 1 2) (pc' := 98) (k := 0) dX11_firstInTurn_95 rfl rfl ck_12 (by decide) fl_X11_95 rfl (hc.c1.1) ?_
            refine g_invV (pc' := 101) (cx_daysWaited hok hc hw (f := j) (k := k) (by omega) (by omega) _) dX11_firstInTurn_98 rfl rfl ck_2 rfl ml_X11_480 im_X1_daysWaited sl_X1_daysWaited in_X1 co_X1_daysWaited pd_X1_daysWaited rfl (by omega) (by decide) ⟨by decide, by decide⟩ (Nat.le_of_ble_eq_true rfl) ?_
            rintro _ _ ⟨rfl, rfl⟩ -
            refine g_icmp_le (tgt := 108) (pc' := 104) dX11_firstInTurn_101 rfl (by decide) (fun c101 => ?_) (fun c101 => ?_)
            ·
              refine g_iconstN (n := 0) (pc' := 109) dX11_firstInTurn_108 rfl ?_
              refine g_istore (pc' := 111) dX11_firstInTurn_109 rfl (by decide) rfl ?_
              try simp only [List.set]
              refine g_aload_n (pc' := 112) dX11_firstInTurn_111 rfl rfl ?_
              refine g_ifnull (pc' := 115) dX11_firstInTurn_112 rfl ?_
              refine g_iload (pc' := 117) dX11_firstInTurn_115 rfl rfl ?_
              refine g_iload_n (pc' := 118) dX11_firstInTurn_117 rfl rfl ?_
              refine g_icmp_gt (tgt := 126) (pc' := 121) dX11_firstInTurn_118 rfl (by decide) (fun c118 => ?_) (fun c118 => ?_)
              ·
                refine g_aload (pc' := 128) dX11_firstInTurn_126 rfl rfl ?_
                refine g_astore_n (pc' := 129) dX11_firstInTurn_128 rfl (by decide) rfl ?_
                try simp only [List.set]
                refine g_iload (pc' := 131) dX11_firstInTurn_129 rfl rfl ?_
                refine g_istore_n (pc' := 132) dX11_firstInTurn_131 rfl (by decide) rfl ?_
                try simp only [List.set]
                refine g_iincN (k := 1) (pc' := 135) dX11_firstInTurn_132 rfl rfl (by decide) rfl ?_
                try simp only [List.set]
                refine g_goto (tgt := 7) dX11_firstInTurn_135 (by decide) ?_
                refine G.drop 5 ?_
                refine G.drop 6 ?_
                refine G.drop 7 ?_
                refine G.drop 8 ?_
                simp only [List.set]
                have q := ih (f + 1) h2 (by omega) (by omega) (s1.tr s2)
                rw [show nxF m R k (f + 1) = (nI f, tnF m R k f) from (cif_f c42).trans (cif_t (Or.inr (Or.inl c118))), frf_s (show f < 2 ^ 31 by omega) rfl] at q
                exact q
              ·
                refine g_iload (pc' := 123) dX11_firstInTurn_121 rfl rfl ?_
                refine g_if_eqN (tgt := 132) (pc' := 126) dX11_firstInTurn_123 rfl (by decide) (by decide) (fun _ => ?_) (fun q => False.elim (by revert q; decide))
                refine g_iincN (k := 1) (pc' := 135) dX11_firstInTurn_132 rfl rfl (by decide) rfl ?_
                try simp only [List.set]
                refine g_goto (tgt := 7) dX11_firstInTurn_135 (by decide) ?_
                refine G.drop 5 ?_
                refine G.drop 6 ?_
                refine G.drop 7 ?_
                refine G.drop 8 ?_
                simp only [List.set]
                have q := ih (f + 1) h2 (by omega) (by omega) (s1.tr s2)
                rw [show nxF m R k (f + 1) = nxF m R k f from (cif_f c42).trans (cif_f (fun z => by rcases z with z | z | z; rw [eb] at z; exact nI_ne_neg (by omega) z; exact c118 z; rw [eb, nI_clamp (by omega)] at z; rw [cif_f c42, cif_f wj.1] at c101; exact absurd z.2 (Int32.not_lt.mpr ((days_iff hw.w.1 hw.w.2 ((hx.si f k (by omega) (by omega)).resolve_left c42) ((hx.si j k (by omega) (by omega)).resolve_left wj.1)).mp c101)))), frf_s (by omega) eb] at q
                exact q
            ·
              refine g_iconstN (n := 1) (pc' := 105) dX11_firstInTurn_104 rfl ?_
              refine g_goto (tgt := 109) dX11_firstInTurn_105 (by decide) ?_
              refine g_istore (pc' := 111) dX11_firstInTurn_109 rfl (by decide) rfl ?_
              try simp only [List.set]
              refine g_aload_n (pc' := 112) dX11_firstInTurn_111 rfl rfl ?_
              refine g_ifnull (pc' := 115) dX11_firstInTurn_112 rfl ?_
              refine g_iload (pc' := 117) dX11_firstInTurn_115 rfl rfl ?_
              refine g_iload_n (pc' := 118) dX11_firstInTurn_117 rfl rfl ?_
              refine g_icmp_gt (tgt := 126) (pc' := 121) dX11_firstInTurn_118 rfl (by decide) (fun c118 => ?_) (fun c118 => ?_)
              ·
                refine g_aload (pc' := 128) dX11_firstInTurn_126 rfl rfl ?_
                refine g_astore_n (pc' := 129) dX11_firstInTurn_128 rfl (by decide) rfl ?_
                try simp only [List.set]
                refine g_iload (pc' := 131) dX11_firstInTurn_129 rfl rfl ?_
                refine g_istore_n (pc' := 132) dX11_firstInTurn_131 rfl (by decide) rfl ?_
                try simp only [List.set]
                refine g_iincN (k := 1) (pc' := 135) dX11_firstInTurn_132 rfl rfl (by decide) rfl ?_
                try simp only [List.set]
                refine g_goto (tgt := 7) dX11_firstInTurn_135 (by decide) ?_
                refine G.drop 5 ?_
                refine G.drop 6 ?_
                refine G.drop 7 ?_
                refine G.drop 8 ?_
                simp only [List.set]
                have q := ih (f + 1) h2 (by omega) (by omega) (s1.tr s2)
                rw [show nxF m R k (f + 1) = (nI f, tnF m R k f) from (cif_f c42).trans (cif_t (Or.inr (Or.inl c118))), frf_s (show f < 2 ^ 31 by omega) rfl] at q
                exact q
              ·
                refine g_iload (pc' := 123) dX11_firstInTurn_121 rfl rfl ?_
                refine g_if_eqN (tgt := 132) (pc' := 126) dX11_firstInTurn_123 rfl (by decide) (by decide) (fun q => False.elim (by revert q; decide)) (fun _ => ?_)
                refine g_aload (pc' := 128) dX11_firstInTurn_126 rfl rfl ?_
                refine g_astore_n (pc' := 129) dX11_firstInTurn_128 rfl (by decide) rfl ?_
                try simp only [List.set]
                refine g_iload (pc' := 131) dX11_firstInTurn_129 rfl rfl ?_
                refine g_istore_n (pc' := 132) dX11_firstInTurn_131 rfl (by decide) rfl ?_
                try simp only [List.set]
                refine g_iincN (k := 1) (pc' := 135) dX11_firstInTurn_132 rfl rfl (by decide) rfl ?_
                try simp only [List.set]
                refine g_goto (tgt := 7) dX11_firstInTurn_135 (by decide) ?_
                refine G.drop 5 ?_
                refine G.drop 6 ?_
                refine G.drop 7 ?_
                refine G.drop 8 ?_
                simp only [List.set]
                have q := ih (f + 1) h2 (by omega) (by omega) (s1.tr s2)
                rw [show nxF m R k (f + 1) = (nI f, tnF m R k f) from (cif_f c42).trans (cif_t (Or.inr (Or.inr ⟨c61, by rw [eb, nI_clamp (by omega)]; rw [cif_f c42, cif_f wj.1] at c101; exact Int32.not_le.mp (fun z => c101 ((days_iff hw.w.1 hw.w.2 ((hx.si f k (by omega) (by omega)).resolve_left c42) ((hx.si j k (by omega) (by omega)).resolve_left wj.1)).mpr z))⟩))), frf_s (show f < 2 ^ 31 by omega) rfl] at q
                exact q
set_option maxRecDepth 4000 in
theorem cx_firstInTurn {E : En} (hok : EOK E) {h : Hp} {m : St} (hc : Cp m h) (hw : Wf m) (hx : Wx m) {R : Rm} (hCR : CR m h R) {k : Nat} (hk : k < nK m) : Call E m_X11_firstInTurn 6 0 0 [vR TH, vR (2, k)] h (fun r h' => r = some (frf (nxF m R k (nF m)).1) ∧ Sx h h') := by
  have hs := hc.s
  have hKb := hw.k.2
  have hTb := hw.t.2
  have hFb := hw.f.2
  have hRb := hw.r.2
  have hGb := hw.g.2
  have hAb := hw.a.2
  have hTlb := hw.tl.2
  have hNwb := hw.w.2
  refine Call.enter hok (by decide) (Nat.le_of_ble_eq_true rfl) ?_
  show G E m_X11_firstInTurn 6 0 0 _ h 0 [some (vR TH), some (vR (2, k)), none, none, none, none, none, none, none] [] h 0 0
  refine g_null (pc' := 1) dX11_firstInTurn_0 rfl ?_
  refine g_astore_n (pc' := 2) dX11_firstInTurn_1 rfl (by decide) rfl ?_
  try simp only [List.set]
  refine g_iconstN (n := 0) (pc' := 3) dX11_firstInTurn_2 rfl ?_
  refine g_istore_n (pc' := 4) dX11_firstInTurn_3 rfl (by decide) rfl ?_
  try simp only [List.set]
  refine g_iconstN (n := 0) (pc' := 5) dX11_firstInTurn_4 rfl ?_
  refine g_istore (pc' := 7) dX11_firstInTurn_5 rfl (by decide) rfl ?_
  try simp only [List.set]
  exact lx_firstInTurn hok hc hw hx hCR hk (Nat.le_refl _) (fun h' s' => ⟨rfl, s'⟩) _ 0 h (Nat.zero_le _) rfl (Sx.rf h)
set_option maxRecDepth 4000 in
theorem cx_next {E : En} (hok : EOK E) {h : Hp} {m : St} (hc : Cp m h) (hw : Wf m) (hx : Wx m) {R : Rm} (hCR : CR m h R) (k0 : Int32) (x : Int32) : Call E m_X11_next 7 0 0 [vR TH, vI k0, vI x] h (fun r h' => r = some (vI (sNext m R k0 x).1) ∧ Cp (sNext m R k0 x).2 h' ∧ mo h' = mo h) := by
  have hs := hc.s
  have hKb := hw.k.2
  have hTb := hw.t.2
  have hFb := hw.f.2
  have hRb := hw.r.2
  have hGb := hw.g.2
  have hAb := hw.a.2
  have hTlb := hw.tl.2
  have hNwb := hw.w.2
  refine Call.enter hok (by decide) (Nat.le_of_ble_eq_true rfl) ?_
  show G E m_X11_next 7 0 0 _ h 0 [some (vR TH), some (vI k0), some (vI x), none, none] [] h 0 0
  refine g_aload_n (pc' := 1) dX11_next_0 rfl rfl ?_
  refine g_iload_n (pc' := 2) dX11_next_1 rfl rfl ?_
  rcases Classical.em (∃ j : Nat, j < nK m ∧ k0 = nI j) with w2 | w2
  ·
    have k2 := w2
    obtain ⟨k, hk, rfl⟩ := k2
    refine g_invV (pc' := 5) (cx_kindAt hok hc hw hk) dX11_next_2 rfl rfl ck_12 rfl ml_X11_119 im_X11_kindAt sl_X11_kindAt in_X11 co_X11_kindAt pd_X11_kindAt rfl (by omega) (by decide) ⟨by decide, by decide⟩ (Nat.le_of_ble_eq_true rfl) ?_
    rintro _ _ ⟨rfl, rfl⟩ -
    refine g_astore_n (pc' := 6) dX11_next_5 rfl (by decide) rfl ?_
    try simp only [List.set]
    refine g_aload_n (pc' := 7) dX11_next_6 rfl rfl ?_
    refine g_ifnull (pc' := 10) dX11_next_7 rfl ?_
    refine g_iload_n (pc' := 11) dX11_next_10 rfl rfl ?_
    refine g_iconstN (n := 0) (pc' := 12) dX11_next_11 rfl ?_
    refine g_iconstN (n := 2) (pc' := 13) dX11_next_12 rfl ?_
    refine g_invS (pc' := 16) (cx_within hok _ _ _) dX11_next_13 rfl ml_X11_99 st_X11_within in_X11 co_X11_within pd_X11_within rfl (by omega) (by decide) ⟨by decide, by decide⟩ (Nat.le_of_ble_eq_true rfl) ?_
    rintro _ _ ⟨rfl, rfl⟩ -
    refine g_ifB_ne (tgt := 23) (pc' := 19) dX11_next_16 rfl (by decide) (fun c16 => ?_) (fun c16 => ?_)
    ·
      refine g_iload_n (pc' := 24) dX11_next_23 rfl rfl ?_
      refine g_iconstN (n := 2) (pc' := 25) dX11_next_24 rfl ?_
      refine g_icmp_ne (tgt := 34) (pc' := 28) dX11_next_25 rfl (by decide) (fun c25 => ?_) (fun c25 => ?_)
      ·
        refine g_aload_n (pc' := 35) dX11_next_34 rfl rfl ?_
        refine g_aload_n (pc' := 36) dX11_next_35 rfl rfl ?_
        have hfc := cx_firstInTurn hok hc hw hx hCR (k := k) (by omega)
        rcases nxF_1 m R k (nF m) with eb | ⟨f, hf, eb⟩
        ·
          rw [frf_n eb] at hfc
          refine g_invV (pc' := 39) (hfc) dX11_next_36 rfl rfl ck_12 rfl ml_X11_350 im_X11_firstInTurn sl_X11_firstInTurn in_X11 co_X11_firstInTurn pd_X11_firstInTurn rfl (by omega) (by decide) ⟨by decide, by decide⟩ (Nat.le_of_ble_eq_true rfl) ?_
          rintro _ h1 ⟨rfl, s1⟩ -
          refine g_astore (pc' := 41) dX11_next_39 rfl (by decide) rfl ?_
          try simp only [List.set]
          refine g_aload (pc' := 43) dX11_next_41 rfl rfl ?_
          refine g_ifnonnullN (pc' := 46) dX11_next_43 rfl ?_
          refine g_ldcw (pc' := 49) dX11_next_46 rfl kc_X11_346 ?_
          refine g_iret dX11_next_49 rfl (by decide) (by decide) ?_
          have e : sNext m R (nI k) x = (nxA m R k x, m) := by unfold sNext; simp only [nI_clamp (show k < 2 ^ 31 by omega)]; exact cif_t ⟨w2, c16⟩
          rw [e]
          exact ⟨congrArg (fun z : Int32 => some (vI z)) (show _ = nxA m R k x from ((cif_f c25).trans (cif_t eb)).symm), hc.sx s1, s1.mo⟩
        ·
          rw [frf_s (by omega) eb] at hfc
          have wj := nxF_w m R k (nF m) f hf eb hFb
          refine g_invV (pc' := 39) (hfc) dX11_next_36 rfl rfl ck_12 rfl ml_X11_350 im_X11_firstInTurn sl_X11_firstInTurn in_X11 co_X11_firstInTurn pd_X11_firstInTurn rfl (by omega) (by decide) ⟨by decide, by decide⟩ (Nat.le_of_ble_eq_true rfl) ?_
          rintro _ h1 ⟨rfl, s1⟩ -
          have hc := hc.sx s1
          have hCR := hCR.sx s1
          have hs := hc.s
          refine g_astore (pc' := 41) dX11_next_39 rfl (by decide) rfl ?_
          try simp only [List.set]
          refine g_aload (pc' := 43) dX11_next_41 rfl rfl ?_
          refine g_ifnonnull (tgt := 50) dX11_next_43 (by decide) ?_
          refine g_iload_n (pc' := 51) dX11_next_50 rfl rfl ?_
          refine g_if_ne (tgt := 62) (pc' := 54) dX11_next_51 rfl (by decide) (fun c51 => ?_) (fun c51 => ?_)
          ·
            refine g_aload_n (pc' := 63) dX11_next_62 rfl rfl ?_
            refine g_aload (pc' := 65) dX11_next_63 rfl rfl ?_
            refine g_aload_n (pc' := 66) dX11_next_65 rfl rfl ?_
            refine g_invV (pc' := 69) (cx_turnOf hok hc hw hx hCR (k := k) (f := f) (by omega) (by omega)) dX11_next_66 rfl rfl ck_12 rfl ml_X11_354 im_X11_turnOf sl_X11_turnOf in_X11 co_X11_turnOf pd_X11_turnOf rfl (by omega) (by decide) ⟨by decide, by decide⟩ (Nat.le_of_ble_eq_true rfl) ?_
            rintro _ h2 ⟨rfl, s2⟩ -
            have hc := hc.sx s2
            have hCR := hCR.sx s2
            have hs := hc.s
            refine g_iret dX11_next_69 rfl (by decide) (by decide) ?_
            have e : sNext m R (nI k) x = (nxA m R k x, m) := by unfold sNext; simp only [nI_clamp (show k < 2 ^ 31 by omega)]; exact cif_t ⟨w2, c16⟩
            rw [e]
            exact ⟨congrArg (fun z : Int32 => some (vI z)) (show _ = nxA m R k x from ((cif_f c25).trans ((cif_f (by rw [eb]; exact nI_ne_neg (by omega))).trans ((cif_f c51).trans wj.2))).symm), hc, (s1.tr s2).mo⟩
          ·
            refine g_aload (pc' := 56) dX11_next_54 rfl rfl ?_
            refine g_getIv (v := nI (f)) (pc' := 59) (k := 0) dX11_next_56 rfl rfl ck_2 (by decide) fl_X11_144 rfl (hc.f0 (f := f) (by omega)) ?_
            refine g_goto (tgt := 69) dX11_next_59 (by decide) ?_
            refine g_iret dX11_next_69 rfl (by decide) (by decide) ?_
            have e : sNext m R (nI k) x = (nxA m R k x, m) := by unfold sNext; simp only [nI_clamp (show k < 2 ^ 31 by omega)]; exact cif_t ⟨w2, c16⟩
            rw [e]
            exact ⟨congrArg (fun z : Int32 => some (vI z)) (show _ = nxA m R k x from ((cif_f c25).trans ((cif_f (by rw [eb]; exact nI_ne_neg (by omega))).trans ((cif_t c51).trans eb))).symm), hc, s1.mo⟩
      ·
        refine g_aload_n (pc' := 29) dX11_next_28 rfl rfl ?_
        refine g_aload_n (pc' := 30) dX11_next_29 rfl rfl ?_
        refine g_invV (pc' := 33) (cx_waitingFor hok hc hw (k := k) (by omega)) dX11_next_30 rfl rfl ck_12 rfl ml_X11_347 im_X11_waitingFor sl_X11_waitingFor in_X11 co_X11_waitingFor pd_X11_waitingFor rfl (by omega) (by decide) ⟨by decide, by decide⟩ (Nat.le_of_ble_eq_true rfl) ?_
        rintro _ _ ⟨rfl, rfl⟩ -
        refine g_iret dX11_next_33 rfl (by decide) (by decide) ?_
        have e : sNext m R (nI k) x = (nxA m R k x, m) := by unfold sNext; simp only [nI_clamp (show k < 2 ^ 31 by omega)]; exact cif_t ⟨w2, c16⟩
        rw [e]
        exact ⟨congrArg (fun z : Int32 => some (vI z)) (show _ = nxA m R k x from (cif_t c25).symm), hc, rfl⟩
    ·
      refine g_ldcw (pc' := 22) dX11_next_19 rfl kc_X11_346 ?_
      refine g_iret dX11_next_22 rfl (by decide) (by decide) ?_
      have e : sNext m R (nI k) x = (-1000000, m) := cif_f (fun z => c16 z.2)
      rw [e]
      exact ⟨rfl, hc, rfl⟩
  ·
    refine g_invV (pc' := 5) (cx_kindAtN hok hc hw w2) dX11_next_2 rfl rfl ck_12 rfl ml_X11_119 im_X11_kindAt sl_X11_kindAt in_X11 co_X11_kindAt pd_X11_kindAt rfl (by omega) (by decide) ⟨by decide, by decide⟩ (Nat.le_of_ble_eq_true rfl) ?_
    rintro _ _ ⟨rfl, rfl⟩ -
    refine g_astore_n (pc' := 6) dX11_next_5 rfl (by decide) rfl ?_
    try simp only [List.set]
    refine g_aload_n (pc' := 7) dX11_next_6 rfl rfl ?_
    refine g_ifnullN (tgt := 19) dX11_next_7 (by decide) ?_
    refine g_ldcw (pc' := 22) dX11_next_19 rfl kc_X11_346 ?_
    refine g_iret dX11_next_22 rfl (by decide) (by decide) ?_
    have e : sNext m R k0 x = (-1000000, m) := cif_f (fun z => w2 z.1)
    rw [e]
    exact ⟨rfl, hc, rfl⟩
