/-! the reference: conditions, what waits, pieces -/
def QA (h : Hp) (c0 c w0 w : Nat) (A : Mng) : Prop := (w = w0 ∧ SRh h c0 c true A) ∨ ∃ (k : Nat) (F1 F2 : Mng), w = w0 + 1 ∧ h.1 (152, 0) w0 = nI 38 ∧ SRh h c0 k true F1 ∧ SRh h k c true F2 ∧ A = fAnd F1 F2
def QO (h : Hp) (c0 c w0 w : Nat) (A : Mng) : Prop := QA h c0 c w0 w A ∨ ∃ (k : Nat) (F1 T : Mng), h.1 (152, 0) w0 = nI 124 ∧ SRh h c0 k true F1 ∧ QA h k c (w0 + 1) w T ∧ A = fOr F1 T
theorem QA.w {h : Hp} {c0 c w0 w : Nat} {A : Mng} (q : QA h c0 c w0 w A) : w0 ≤ w ∧ c0 < c := by
  rcases q with ⟨e, q⟩ | ⟨k2, F1, F2, e, es, q1, q2, ea⟩
  · exact ⟨by omega, q.lt⟩
  · exact ⟨by omega, Nat.lt_trans q1.lt q2.lt⟩
theorem QO.w {h : Hp} {c0 c w0 w : Nat} {A : Mng} (q : QO h c0 c w0 w A) : w0 ≤ w ∧ c0 < c := by
  rcases q with q | ⟨k2, F1, T, es, q1, q2, ea⟩
  · exact q.w
  · exact ⟨by have := q2.w; omega, Nat.lt_trans q1.lt q2.w.2⟩
theorem SRh.and {h : Hp} {c0 k c w : Nat} {F1 F2 : Mng} (q1 : SRh h c0 k true F1) (q2 : SRh h k c true F2) : SRh (popH c w (nI 38) h) c0 (c + 1) true (fAnd F1 F2) :=
  SR.con (q1.k ((YK.rf c 0 h).pop (Nat.le_refl c)) (by have := q2.lt; omega)) (q2.k ((YK.rf c 0 h).pop (Nat.le_refl c)) (Nat.le_refl c)) (em_c (a := nI 0)).1
theorem SRh.or {h : Hp} {c0 k c w : Nat} {F1 F2 : Mng} (q1 : SRh h c0 k true F1) (q2 : SRh h k c true F2) : SRh (popH c w (nI 124) h) c0 (c + 1) true (fOr F1 F2) :=
  SR.dis (q1.k ((YK.rf c 0 h).pop (Nat.le_refl c)) (by have := q2.lt; omega)) (q2.k ((YK.rf c 0 h).pop (Nat.le_refl c)) (Nat.le_refl c)) (em_c (a := nI 0)).1
def JnP (b : Nat → Nat) (n p c c0 w0 o : Nat) (A : Mng) (h : Hp) (r : Option V) (h' : Hp) : Prop := r = none ∧ ∃ c', c ≤ c' ∧ RS b n p c' w0 o h' ∧ YK c w0 h h' ∧ SRh h' c0 c' true A
set_option maxRecDepth 4000 in
theorem jn_end0 {E : En} (hok : EOK E) {b : Nat → Nat} {n p c w o g : Nat} {h h0 : Hp} {Q : Option V → Hp → Prop} (hg256 : g < 256) (hr : RS b n p c w o h) (hw : w ≤ 240) (htp : tpV w h = nI g) (hn : ¬ g = 38) (hQ : Q none h) : G E m_X12_joins 2 0 0 Q h0 0 [some (vR MO), some (vI (nI 0))] [] h 0 0 := by
  refine g_aload_n (pc' := 1) dX12_joins_0 rfl rfl ?_
  refine g_invV (pc' := 4) (cm_top hok hr.s hr.2.2.2.1 hw htp) dX12_joins_1 rfl rfl ck_13 rfl ml_X12_305 im_X12_top sl_X12_top in_X12 co_X12_top pd_X12_top rfl (by omega) (by decide) ⟨by decide, by decide⟩ (Nat.le_of_ble_eq_true rfl) ?_
  rintro _ _ ⟨rfl, rfl⟩ -
  refine g_bipushN (n := 38) (pc' := 6) dX12_joins_4 rfl (by decide) ?_
  refine g_icmp_eqN (tgt := 22) (pc' := 9) dX12_joins_6 rfl (by decide) (by omega) (by omega) (fun c6 => ?_) (fun c6 => ?_)
  · exact absurd c6 (by omega)
  ·
    refine g_iload_n (pc' := 10) dX12_joins_9 rfl rfl ?_
    refine g_if_eqN (tgt := 44) (pc' := 13) dX12_joins_10 rfl (by decide) (by decide) (fun _ => ?_) (fun q => False.elim (by revert q; decide))
    refine g_vret dX12_joins_44 rfl (by decide) (by decide) ?_
    exact hQ
set_option maxRecDepth 4000 in
theorem jn_pop0 {E : En} (hok : EOK E) {b : Nat → Nat} {n p c w o g : Nat} {h h0 : Hp} {Q : Option V → Hp → Prop} (hg256 : g < 256) (hr : RS b n p c (w + 1) o h) (hw : w + 1 ≤ 240) (hc200 : c < 200) (htp : tpV (w + 1) h = nI g) (hn : g = 38) (K : G E m_X12_joins 2 0 0 Q h0 0 [some (vR MO), some (vI (nI 0))] [] (popH c w (nI g) h) 0 0) : G E m_X12_joins 2 0 0 Q h0 0 [some (vR MO), some (vI (nI 0))] [] h 0 0 := by
  refine g_aload_n (pc' := 1) dX12_joins_0 rfl rfl ?_
  refine g_invV (pc' := 4) (cm_top hok hr.s hr.2.2.2.1 hw htp) dX12_joins_1 rfl rfl ck_13 rfl ml_X12_305 im_X12_top sl_X12_top in_X12 co_X12_top pd_X12_top rfl (by omega) (by decide) ⟨by decide, by decide⟩ (Nat.le_of_ble_eq_true rfl) ?_
  rintro _ _ ⟨rfl, rfl⟩ -
  refine g_bipushN (n := 38) (pc' := 6) dX12_joins_4 rfl (by decide) ?_
  refine g_icmp_eqN (tgt := 22) (pc' := 9) dX12_joins_6 rfl (by decide) (by omega) (by omega) (fun c6 => ?_) (fun c6 => ?_)
  ·
    refine g_aload_n (pc' := 23) dX12_joins_22 rfl rfl ?_
    refine g_aload_n (pc' := 24) dX12_joins_23 rfl rfl ?_
    refine g_invV (pc' := 27) (cm_top hok hr.s hr.2.2.2.1 hw htp) dX12_joins_24 rfl rfl ck_13 rfl ml_X12_305 im_X12_top sl_X12_top in_X12 co_X12_top pd_X12_top rfl (by omega) (by decide) ⟨by decide, by decide⟩ (Nat.le_of_ble_eq_true rfl) ?_
    rintro _ _ ⟨rfl, rfl⟩ -
    refine g_iconstN (n := 0) (pc' := 28) dX12_joins_27 rfl ?_
    refine g_invV (pc' := 31) (cm_emit hok hr.s hr.g hr.2.2.1 hc200 _ _) dX12_joins_28 rfl rfl ck_13 rfl ml_X12_314 im_X12_emit sl_X12_emit in_X12 co_X12_emit pd_X12_emit rfl (by omega) (by decide) ⟨by decide, by decide⟩ (Nat.le_of_ble_eq_true rfl) ?_
    rintro _ _ ⟨rfl, rfl⟩ -
    refine g_aload_n (pc' := 32) dX12_joins_31 rfl rfl ?_
    refine g_dup (pc' := 33) dX12_joins_32 rfl rfl ?_
    refine g_getIv (v := nI (w + 1)) (pc' := 36) (k := 49) dX12_joins_33 rfl rfl ck_13 (by decide) fl_X12_278 rfl (hr.2.2.2.1) ?_
    refine g_iconstN (n := 1) (pc' := 37) dX12_joins_36 rfl ?_
    refine g_isubN (pc' := 38) dX12_joins_37 rfl (by omega) ?_
    refine g_putI (pc' := 41) (k := 49) dX12_joins_38 rfl rfl ck_13 (by decide) fl_X12_278 rfl rfl rfl rfl ?_
    refine g_goto (tgt := 0) dX12_joins_41 (by decide) ?_
    exact K
  · exact absurd hn c6
set_option maxRecDepth 4000 in
theorem jn_end1 {E : En} (hok : EOK E) {b : Nat → Nat} {n p c w o g : Nat} {h h0 : Hp} {Q : Option V → Hp → Prop} (hg256 : g < 256) (hr : RS b n p c w o h) (hw : w ≤ 240) (htp : tpV w h = nI g) (hn : ¬ g = 38 ∧ ¬ g = 124) (hQ : Q none h) : G E m_X12_joins 2 0 0 Q h0 0 [some (vR MO), some (vI (nI 1))] [] h 0 0 := by
  refine g_aload_n (pc' := 1) dX12_joins_0 rfl rfl ?_
  refine g_invV (pc' := 4) (cm_top hok hr.s hr.2.2.2.1 hw htp) dX12_joins_1 rfl rfl ck_13 rfl ml_X12_305 im_X12_top sl_X12_top in_X12 co_X12_top pd_X12_top rfl (by omega) (by decide) ⟨by decide, by decide⟩ (Nat.le_of_ble_eq_true rfl) ?_
  rintro _ _ ⟨rfl, rfl⟩ -
  refine g_bipushN (n := 38) (pc' := 6) dX12_joins_4 rfl (by decide) ?_
  refine g_icmp_eqN (tgt := 22) (pc' := 9) dX12_joins_6 rfl (by decide) (by omega) (by omega) (fun c6 => ?_) (fun c6 => ?_)
  · exact absurd c6 (by omega)
  ·
    refine g_iload_n (pc' := 10) dX12_joins_9 rfl rfl ?_
    refine g_if_eqN (tgt := 44) (pc' := 13) dX12_joins_10 rfl (by decide) (by decide) (fun q => False.elim (by revert q; decide)) (fun _ => ?_)
    refine g_aload_n (pc' := 14) dX12_joins_13 rfl rfl ?_
    refine g_invV (pc' := 17) (cm_top hok hr.s hr.2.2.2.1 hw htp) dX12_joins_14 rfl rfl ck_13 rfl ml_X12_305 im_X12_top sl_X12_top in_X12 co_X12_top pd_X12_top rfl (by omega) (by decide) ⟨by decide, by decide⟩ (Nat.le_of_ble_eq_true rfl) ?_
    rintro _ _ ⟨rfl, rfl⟩ -
    refine g_bipushN (n := 124) (pc' := 19) dX12_joins_17 rfl (by decide) ?_
    refine g_icmp_neN (tgt := 44) (pc' := 22) dX12_joins_19 rfl (by decide) (by omega) (by omega) (fun c19 => ?_) (fun c19 => ?_)
    ·
      refine g_vret dX12_joins_44 rfl (by decide) (by decide) ?_
      exact hQ
    · exact absurd c19 (by omega)
set_option maxRecDepth 4000 in
theorem jn_pop1 {E : En} (hok : EOK E) {b : Nat → Nat} {n p c w o g : Nat} {h h0 : Hp} {Q : Option V → Hp → Prop} (hg256 : g < 256) (hr : RS b n p c (w + 1) o h) (hw : w + 1 ≤ 240) (hc200 : c < 200) (htp : tpV (w + 1) h = nI g) (hn : g = 38 ∨ g = 124) (K : G E m_X12_joins 2 0 0 Q h0 0 [some (vR MO), some (vI (nI 1))] [] (popH c w (nI g) h) 0 0) : G E m_X12_joins 2 0 0 Q h0 0 [some (vR MO), some (vI (nI 1))] [] h 0 0 := by
  refine g_aload_n (pc' := 1) dX12_joins_0 rfl rfl ?_
  refine g_invV (pc' := 4) (cm_top hok hr.s hr.2.2.2.1 hw htp) dX12_joins_1 rfl rfl ck_13 rfl ml_X12_305 im_X12_top sl_X12_top in_X12 co_X12_top pd_X12_top rfl (by omega) (by decide) ⟨by decide, by decide⟩ (Nat.le_of_ble_eq_true rfl) ?_
  rintro _ _ ⟨rfl, rfl⟩ -
  refine g_bipushN (n := 38) (pc' := 6) dX12_joins_4 rfl (by decide) ?_
  refine g_icmp_eqN (tgt := 22) (pc' := 9) dX12_joins_6 rfl (by decide) (by omega) (by omega) (fun c6 => ?_) (fun c6 => ?_)
  ·
    refine g_aload_n (pc' := 23) dX12_joins_22 rfl rfl ?_
    refine g_aload_n (pc' := 24) dX12_joins_23 rfl rfl ?_
    refine g_invV (pc' := 27) (cm_top hok hr.s hr.2.2.2.1 hw htp) dX12_joins_24 rfl rfl ck_13 rfl ml_X12_305 im_X12_top sl_X12_top in_X12 co_X12_top pd_X12_top rfl (by omega) (by decide) ⟨by decide, by decide⟩ (Nat.le_of_ble_eq_true rfl) ?_
    rintro _ _ ⟨rfl, rfl⟩ -
    refine g_iconstN (n := 0) (pc' := 28) dX12_joins_27 rfl ?_
    refine g_invV (pc' := 31) (cm_emit hok hr.s hr.g hr.2.2.1 hc200 _ _) dX12_joins_28 rfl rfl ck_13 rfl ml_X12_314 im_X12_emit sl_X12_emit in_X12 co_X12_emit pd_X12_emit rfl (by omega) (by decide) ⟨by decide, by decide⟩ (Nat.le_of_ble_eq_true rfl) ?_
    rintro _ _ ⟨rfl, rfl⟩ -
    refine g_aload_n (pc' := 32) dX12_joins_31 rfl rfl ?_
    refine g_dup (pc' := 33) dX12_joins_32 rfl rfl ?_
    refine g_getIv (v := nI (w + 1)) (pc' := 36) (k := 49) dX12_joins_33 rfl rfl ck_13 (by decide) fl_X12_278 rfl (hr.2.2.2.1) ?_
    refine g_iconstN (n := 1) (pc' := 37) dX12_joins_36 rfl ?_
    refine g_isubN (pc' := 38) dX12_joins_37 rfl (by omega) ?_
    refine g_putI (pc' := 41) (k := 49) dX12_joins_38 rfl rfl ck_13 (by decide) fl_X12_278 rfl rfl rfl rfl ?_
    refine g_goto (tgt := 0) dX12_joins_41 (by decide) ?_
    exact K
  ·
    refine g_iload_n (pc' := 10) dX12_joins_9 rfl rfl ?_
    refine g_if_eqN (tgt := 44) (pc' := 13) dX12_joins_10 rfl (by decide) (by decide) (fun q => False.elim (by revert q; decide)) (fun _ => ?_)
    refine g_aload_n (pc' := 14) dX12_joins_13 rfl rfl ?_
    refine g_invV (pc' := 17) (cm_top hok hr.s hr.2.2.2.1 hw htp) dX12_joins_14 rfl rfl ck_13 rfl ml_X12_305 im_X12_top sl_X12_top in_X12 co_X12_top pd_X12_top rfl (by omega) (by decide) ⟨by decide, by decide⟩ (Nat.le_of_ble_eq_true rfl) ?_
    rintro _ _ ⟨rfl, rfl⟩ -
    refine g_bipushN (n := 124) (pc' := 19) dX12_joins_17 rfl (by decide) ?_
    refine g_icmp_neN (tgt := 44) (pc' := 22) dX12_joins_19 rfl (by decide) (by omega) (by omega) (fun c19 => ?_) (fun c19 => ?_)
    · exact absurd hn (by omega)
    ·
      refine g_aload_n (pc' := 23) dX12_joins_22 rfl rfl ?_
      refine g_aload_n (pc' := 24) dX12_joins_23 rfl rfl ?_
      refine g_invV (pc' := 27) (cm_top hok hr.s hr.2.2.2.1 hw htp) dX12_joins_24 rfl rfl ck_13 rfl ml_X12_305 im_X12_top sl_X12_top in_X12 co_X12_top pd_X12_top rfl (by omega) (by decide) ⟨by decide, by decide⟩ (Nat.le_of_ble_eq_true rfl) ?_
      rintro _ _ ⟨rfl, rfl⟩ -
      refine g_iconstN (n := 0) (pc' := 28) dX12_joins_27 rfl ?_
      refine g_invV (pc' := 31) (cm_emit hok hr.s hr.g hr.2.2.1 hc200 _ _) dX12_joins_28 rfl rfl ck_13 rfl ml_X12_314 im_X12_emit sl_X12_emit in_X12 co_X12_emit pd_X12_emit rfl (by omega) (by decide) ⟨by decide, by decide⟩ (Nat.le_of_ble_eq_true rfl) ?_
      rintro _ _ ⟨rfl, rfl⟩ -
      refine g_aload_n (pc' := 32) dX12_joins_31 rfl rfl ?_
      refine g_dup (pc' := 33) dX12_joins_32 rfl rfl ?_
      refine g_getIv (v := nI (w + 1)) (pc' := 36) (k := 49) dX12_joins_33 rfl rfl ck_13 (by decide) fl_X12_278 rfl (hr.2.2.2.1) ?_
      refine g_iconstN (n := 1) (pc' := 37) dX12_joins_36 rfl ?_
      refine g_isubN (pc' := 38) dX12_joins_37 rfl (by omega) ?_
      refine g_putI (pc' := 41) (k := 49) dX12_joins_38 rfl rfl ck_13 (by decide) fl_X12_278 rfl rfl rfl rfl ?_
      refine g_goto (tgt := 0) dX12_joins_41 (by decide) ?_
      exact K
theorem jn_goF {E : En} (hok : EOK E) {b : Nat → Nat} {n p c c0 w w0 o g : Nat} {A : Mng} {h h0 : Hp} {Q : Option V → Hp → Prop} (hb : HB b n) (hr : RS b n p c w o h) (hq : QA h c0 c w0 w A) (hg : g < 256) (htp : tpV w0 h = nI g) (hn : ¬ g = 38) (hQ : ∀ h', JnP b n p c c0 w0 o A h none h' → Q none h') : G E m_X12_joins 2 0 0 Q h0 0 [some (vR MO), some (vI (nI 0))] [] h 0 0 := by
  have hb1 := hb.1
  have hi := hr.i
  rcases hq with ⟨rfl, q⟩ | ⟨k, F1, F2, rfl, es, q1, q2, rfl⟩
  · exact jn_end0 hok hg hr (by omega) htp hn (hQ h ⟨rfl, c, Nat.le_refl c, hr, YK.rf _ _ _, q⟩)
  · refine jn_pop0 hok (g := 38) (by decide) hr (by omega) (by omega) ((tpV_s w0 h).trans es) rfl ?_
    exact jn_end0 hok hg hr.pop (by omega) ((tpV_pop (Nat.le_refl w0)).trans htp) hn (hQ _ ⟨rfl, c + 1, by omega, hr.pop, (YK.rf c w0 h).pop (Nat.le_refl c), SRh.and q1 q2⟩)
theorem jn_goT {E : En} (hok : EOK E) {b : Nat → Nat} {n p c c0 w w0 o g : Nat} {A : Mng} {h h0 : Hp} {Q : Option V → Hp → Prop} (hb : HB b n) (hr : RS b n p c w o h) (hq : QO h c0 c w0 w A) (hg : g < 256) (htp : tpV w0 h = nI g) (hn : ¬ g = 38 ∧ ¬ g = 124) (hQ : ∀ h', JnP b n p c c0 w0 o A h none h' → Q none h') : G E m_X12_joins 2 0 0 Q h0 0 [some (vR MO), some (vI (nI 1))] [] h 0 0 := by
  have hb1 := hb.1
  have hi := hr.i
  rcases hq with (⟨rfl, q⟩ | ⟨k, F1, F2, rfl, es, q1, q2, rfl⟩) | ⟨k, F1, T, eg, q1, hq2, rfl⟩
  · exact jn_end1 hok hg hr (by omega) htp hn (hQ h ⟨rfl, c, Nat.le_refl c, hr, YK.rf _ _ _, q⟩)
  · refine jn_pop1 hok (g := 38) (by decide) hr (by omega) (by omega) ((tpV_s w0 h).trans es) (Or.inl rfl) ?_
    exact jn_end1 hok hg hr.pop (by omega) ((tpV_pop (Nat.le_refl w0)).trans htp) hn (hQ _ ⟨rfl, c + 1, by omega, hr.pop, (YK.rf c w0 h).pop (Nat.le_refl c), SRh.and q1 q2⟩)
  · rcases hq2 with ⟨rfl, q2⟩ | ⟨k2, F2, F3, rfl, es, q2, q3, rfl⟩
    · refine jn_pop1 hok (g := 124) (by decide) hr (by omega) (by omega) ((tpV_s w0 h).trans eg) (Or.inr rfl) ?_
      exact jn_end1 hok hg hr.pop (by omega) ((tpV_pop (Nat.le_refl w0)).trans htp) hn (hQ _ ⟨rfl, c + 1, by omega, hr.pop, (YK.rf c w0 h).pop (Nat.le_refl c), SRh.or q1 q2⟩)
    · refine jn_pop1 hok (g := 38) (by decide) hr (by omega) (by omega) ((tpV_s (w0 + 1) h).trans es) (Or.inl rfl) ?_
      have k1 : YK c (w0 + 1) h (popH c (w0 + 1) (nI 38) h) := (YK.rf c (w0 + 1) h).pop (Nat.le_refl c)
      refine jn_pop1 hok (g := 124) (by decide) hr.pop (by omega) (by omega) ((tpV_k k1).trans ((tpV_s w0 h).trans eg)) (Or.inr rfl) ?_
      exact jn_end1 hok hg hr.pop.pop (by omega) ((tpV_pop (Nat.le_refl w0)).trans ((tpV_pop (Nat.le_succ w0)).trans htp)) hn (hQ _ ⟨rfl, c + 1 + 1, by omega, hr.pop.pop, ((YK.rf c w0 h).pop (Nat.le_refl c)).pop (Nat.le_succ c), SRh.or (q1.k k1 (by have := q2.lt; have := q3.lt; omega)) (SRh.and q2 q3)⟩)
theorem cm_joins0 {E : En} (hok : EOK E) {b : Nat → Nat} {n p c c0 w w0 o g : Nat} {A : Mng} {h : Hp} (hb : HB b n) (hr : RS b n p c w o h) (hq : QA h c0 c w0 w A) (hg : g < 256) (htp : tpV w0 h = nI g) (hn : ¬ g = 38) : Call E m_X12_joins 2 0 0 [vR MO, vI (nI 0)] h (JnP b n p c c0 w0 o A h) :=
  Call.enter hok (by decide) (Nat.le_of_ble_eq_true rfl) (jn_goF hok hb hr hq hg htp hn (fun _ q => q))
theorem cm_joins1 {E : En} (hok : EOK E) {b : Nat → Nat} {n p c c0 w w0 o g : Nat} {A : Mng} {h : Hp} (hb : HB b n) (hr : RS b n p c w o h) (hq : QO h c0 c w0 w A) (hg : g < 256) (htp : tpV w0 h = nI g) (hn : ¬ g = 38 ∧ ¬ g = 124) : Call E m_X12_joins 2 0 0 [vR MO, vI (nI 1)] h (JnP b n p c c0 w0 o A h) :=
  Call.enter hok (by decide) (Nat.le_of_ble_eq_true rfl) (jn_goT hok hb hr hq hg htp hn (fun _ q => q))
/-- each ! that waits counts among the brackets -/
def NO (h : Hp) (w o : Nat) : Prop := cnt (fun j => h.1 (152, 0) j = nI 33) w ≤ o
theorem NO.k {h h' : Hp} {c w w1 o : Nat} (q : NO h w o) (k : YK c w1 h h') (hw : w ≤ w1) : NO h' w o := by
  unfold NO at *
  rw [cnt_congr (fun j hj => by rw [k.2.2.2.2 j (by omega)])]
  exact q
theorem NO.put {h : Hp} {w o g : Nat} (q : NO h w o) (e : h.1 (152, 0) w = nI g) (hg : g < 256) (hn : ¬ g = 33) : NO h (w + 1) o := by
  unfold NO at *
  rw [cnt_f (fun z => hn ((nI_eq (by omega) (by omega)).mp (e.symm.trans z)))]
  exact q
theorem NO.put1 {h : Hp} {w o : Nat} (q : NO h w o) : NO h (w + 1) (o + 1) := by
  unfold NO at *
  by_cases z : h.1 (152, 0) w = nI 33
  · rw [cnt_t z]; omega
  · rw [cnt_f z]; omega
theorem NO.pop {h : Hp} {w o : Nat} (q : NO h (w + 1) o) (e : h.1 (152, 0) w = nI 33) : ∃ o', o = o' + 1 ∧ NO h w o' := by
  unfold NO at *
  rw [cnt_t e] at q
  exact ⟨o - 1, by omega, by omega⟩
/-- a piece that is read: its ! are taken from the stack -/
def TS (b : Nat → Nat) (n q c w o : Nat) (F : Mng) (h : Hp) : Prop := ∃ c1 e w' o', c < c1 ∧ SRh h c c1 true F ∧ w = w' + e ∧ o = o' + e ∧ (∀ i, i < e → h.1 (152, 0) (w' + i) = nI 33) ∧ ¬ tpV w' h = nI 33 ∧ RS b n q (c1 + e) w' o' h ∧ ∀ i, i < e → h.1 (141, 0) (c1 + i) = nI 2
def EnP (b : Nat → Nat) (n p c w o : Nat) (h : Hp) (r : Option V) (h' : Hp) : Prop := r = none ∧ (∀ W, YK c W h h') ∧ ∃ e w' o', w = w' + e ∧ o = o' + e ∧ (∀ i, i < e → h'.1 (152, 0) (w' + i) = nI 33) ∧ ¬ tpV w' h' = nI 33 ∧ RS b n p (c + e) w' o' h' ∧ ∀ i, i < e → h'.1 (141, 0) (c + i) = nI 2
theorem EnP.ts {b : Nat → Nat} {n q c c1 w o : Nat} {F : Mng} {h h' : Hp} {r : Option V} (q0 : EnP b n q c1 w o h r h') (s : SRh h c c1 true F) : TS b n q c w o F h' := by
  obtain ⟨-, k, e, w', o', a1, a2, a3, a4, a5, a6⟩ := q0
  exact ⟨c1, e, w', o', s.lt, s.k (k 0) (Nat.le_refl _), a1, a2, a3, a4, a5, a6⟩
def enH (c w o : Nat) (h : Hp) : Hp := wI (popH c w (nI 2) h) MO 48 (nI o)
set_option maxRecDepth 4000 in
theorem en_pop {E : En} (hok : EOK E) {b : Nat → Nat} {n p c w o : Nat} {h h0 : Hp} {Q : Option V → Hp → Prop} (hr : RS b n p c (w + 1) (o + 1) h) (hw240 : w + 1 ≤ 240) (hc200 : c < 200) (htp : tpV (w + 1) h = nI 33) (K : G E m_X12_ends 2 0 0 Q h0 0 [some (vR MO)] [] (enH c w o h) 0 0) : G E m_X12_ends 2 0 0 Q h0 0 [some (vR MO)] [] h 0 0 := by
  refine g_aload_n (pc' := 1) dX12_ends_0 rfl rfl ?_
  refine g_invV (pc' := 4) (cm_top (g := 33) hok hr.s hr.2.2.2.1 hw240 htp) dX12_ends_1 rfl rfl ck_13 rfl ml_X12_305 im_X12_top sl_X12_top in_X12 co_X12_top pd_X12_top rfl (by omega) (by decide) ⟨by decide, by decide⟩ (Nat.le_of_ble_eq_true rfl) ?_
  rintro _ _ ⟨rfl, rfl⟩ -
  refine g_bipushN (n := 33) (pc' := 6) dX12_ends_4 rfl (by decide) ?_
  refine g_icmp_neN (tgt := 38) (pc' := 9) dX12_ends_6 rfl (by decide) (by decide) (by decide) (fun q => False.elim (by revert q; decide)) (fun _ => ?_)
  refine g_aload_n (pc' := 10) dX12_ends_9 rfl rfl ?_
  refine g_iconstN (n := 2) (pc' := 11) dX12_ends_10 rfl ?_
  refine g_iconstN (n := 0) (pc' := 12) dX12_ends_11 rfl ?_
  refine g_invV (pc' := 15) (cm_emit hok hr.s hr.g hr.2.2.1 hc200 _ _) dX12_ends_12 rfl rfl ck_13 rfl ml_X12_314 im_X12_emit sl_X12_emit in_X12 co_X12_emit pd_X12_emit rfl (by omega) (by decide) ⟨by decide, by decide⟩ (Nat.le_of_ble_eq_true rfl) ?_
  rintro _ _ ⟨rfl, rfl⟩ -
  refine g_aload_n (pc' := 16) dX12_ends_15 rfl rfl ?_
  refine g_dup (pc' := 17) dX12_ends_16 rfl rfl ?_
  refine g_getIv (v := nI (w + 1)) (pc' := 20) (k := 49) dX12_ends_17 rfl rfl ck_13 (by decide) fl_X12_278 rfl (hr.2.2.2.1) ?_
  refine g_iconstN (n := 1) (pc' := 21) dX12_ends_20 rfl ?_
  refine g_isubN (pc' := 22) dX12_ends_21 rfl (by omega) ?_
  refine g_putI (pc' := 25) (k := 49) dX12_ends_22 rfl rfl ck_13 (by decide) fl_X12_278 rfl rfl rfl rfl ?_
  refine g_aload_n (pc' := 26) dX12_ends_25 rfl rfl ?_
  refine g_dup (pc' := 27) dX12_ends_26 rfl rfl ?_
  refine g_getIv (v := nI (o + 1)) (pc' := 30) (k := 48) dX12_ends_27 rfl rfl ck_13 (by decide) fl_X12_281 rfl (hr.2.2.2.2.1) ?_
  refine g_iconstN (n := 1) (pc' := 31) dX12_ends_30 rfl ?_
  refine g_isubN (pc' := 32) dX12_ends_31 rfl (by omega) ?_
  refine g_putI (pc' := 35) (k := 48) dX12_ends_32 rfl rfl ck_13 (by decide) fl_X12_281 rfl rfl rfl rfl ?_
  refine g_goto (tgt := 0) dX12_ends_35 (by decide) ?_
  exact K
set_option maxRecDepth 4000 in
theorem cm_top0 {E : En} (hok : EOK E) {h : Hp} {w : Nat} (hs : Shp h.2) (h49 : h.1 MO 49 = nI w) (hw : w ≤ 240) : Fn E m_X12_top 0 [vR MO] h (vI (tpV w h)) := by
  refine Call.enter hok (by decide) (Nat.le_of_ble_eq_true rfl) ?_
  show G E m_X12_top 0 0 0 _ h 0 [some (vR MO)] [] h 0 0
  refine g_aload_n (pc' := 1) dX12_top_0 rfl rfl ?_
  refine g_getIv (v := nI (w)) (pc' := 4) (k := 49) dX12_top_1 rfl rfl ck_13 (by decide) fl_X12_278 rfl (h49) ?_
  refine g_if_leN (tgt := 21) (pc' := 7) dX12_top_4 rfl (by decide) (by omega) (fun c4 => ?_) (fun c4 => ?_)
  ·
    refine g_iconstN (n := 0) (pc' := 22) dX12_top_21 rfl ?_
    refine g_iret dX12_top_22 rfl (by decide) (by decide) ?_
    exact ⟨congrArg (fun z : Int32 => some (vI z)) (show _ = tpV w h from (if_pos c4).symm), rfl⟩
  ·
    refine g_aload_n (pc' := 8) dX12_top_7 rfl rfl ?_
    refine g_getS (pc' := 11) (k := 52) (b := (152, 0)) dX12_top_8 rfl rfl ck_13 (by decide) fl_X12_117 rfl hs rfl ?_
    refine g_aload_n (pc' := 12) dX12_top_11 rfl rfl ?_
    refine g_getIv (v := nI (w)) (pc' := 15) (k := 49) dX12_top_12 rfl rfl ck_13 (by decide) fl_X12_278 rfl (h49) ?_
    refine g_iconstN (n := 1) (pc' := 16) dX12_top_15 rfl ?_
    refine g_isubN (pc' := 17) dX12_top_16 rfl (by omega) ?_
    refine g_ialdN (pc' := 18) (v := _) dX12_top_17 rfl rfl (by decide) (by omega) (rfl) ?_
    refine g_goto (tgt := 22) dX12_top_18 (by decide) ?_
    refine g_iret dX12_top_22 rfl (by decide) (by decide) ?_
    exact ⟨congrArg (fun z : Int32 => some (vI z)) (show _ = tpV w h from (if_neg c4).symm), rfl⟩
set_option maxRecDepth 4000 in
theorem en_end {E : En} (hok : EOK E) {b : Nat → Nat} {n p c w o : Nat} {h h0 : Hp} {Q : Option V → Hp → Prop} (hr : RS b n p c w o h) (hw240 : w ≤ 240) (htp : ¬ tpV w h = nI 33) (hQ : Q none h) : G E m_X12_ends 2 0 0 Q h0 0 [some (vR MO)] [] h 0 0 := by
  refine g_aload_n (pc' := 1) dX12_ends_0 rfl rfl ?_
  refine g_invV (pc' := 4) (cm_top0 hok hr.s hr.2.2.2.1 hw240) dX12_ends_1 rfl rfl ck_13 rfl ml_X12_305 im_X12_top sl_X12_top in_X12 co_X12_top pd_X12_top rfl (by omega) (by decide) ⟨by decide, by decide⟩ (Nat.le_of_ble_eq_true rfl) ?_
  rintro _ _ ⟨rfl, rfl⟩ -
  refine g_bipushN (n := 33) (pc' := 6) dX12_ends_4 rfl (by decide) ?_
  refine g_icmp_ne (tgt := 38) (pc' := 9) dX12_ends_6 rfl (by decide) (fun c6 => ?_) (fun c6 => ?_)
  ·
    refine g_vret dX12_ends_38 rfl (by decide) (by decide) ?_
    exact hQ
  · exact absurd c6 htp
theorem RS.en {b : Nat → Nat} {n p c w o : Nat} {h : Hp} (t : RS b n p c (w + 1) (o + 1) h) : RS b n p (c + 1) w o (enH c w o h) := ⟨t.1.k (((YK.rf 0 0 h).pop (Nat.zero_le c)).f rfl), t.2.1, rfl, rfl, rfl, t.g, by have := t.i; omega, t.i.2⟩
theorem en_go {E : En} (hok : EOK E) {b : Nat → Nat} {n p : Nat} {h0 : Hp} {Q : Option V → Hp → Prop} (hb : HB b n) : ∀ (w c o : Nat) (h : Hp), RS b n p c w o h → NO h w o → (∀ h', EnP b n p c w o h none h' → Q none h') → G E m_X12_ends 2 0 0 Q h0 0 [some (vR MO)] [] h 0 0 := by
  have hb1 := hb.1
  intro w
  induction w with
  | zero =>
    intro c o h hr no hQ
    have ht : ¬ tpV 0 h = nI 33 := by
      show ¬ (0 : Int32) = nI 33
      decide
    exact en_end hok hr (by decide) ht (hQ h ⟨rfl, fun W => YK.rf _ _ _, 0, 0, o, rfl, rfl, fun i hi => absurd hi (Nat.not_lt_zero i), ht, hr, fun i hi => absurd hi (Nat.not_lt_zero i)⟩)
  | succ w ih =>
    intro c o h hr no hQ
    have hi := hr.i
    by_cases e : h.1 (152, 0) w = nI 33
    · obtain ⟨o', rfl, no'⟩ := no.pop e
      have kk : ∀ W, YK c W h (enH c w o' h) := fun W => ((YK.rf c W h).pop (Nat.le_refl c)).f rfl
      refine en_pop hok hr (by omega) (by omega) ((tpV_s w h).trans e) (ih (c + 1) o' _ hr.en (no'.k (kk w) (Nat.le_refl w)) (fun h' q => hQ h' ?_))
      obtain ⟨-, k, e', w', o2, a1, a2, a3, a4, a5, a6⟩ := q
      refine ⟨rfl, fun W => (kk W).tr (k W) (Nat.le_succ c) (Nat.le_refl W), e' + 1, w', o2, by omega, by omega, fun i hi => ?_, a4, by rw [show c + (e' + 1) = c + 1 + e' by omega]; exact a5, fun i hi => ?_⟩
      · rcases Nat.lt_or_ge i e' with z | z
        · exact a3 i z
        · have ej : w' + i = w := by omega
          rw [ej, (k (w + 1)).2.2.2.2 w (Nat.lt_succ_self w), (kk (w + 1)).2.2.2.2 w (Nat.lt_succ_self w)]
          exact e
      · rcases i with _ | i
        · exact (((k 0).2.2.2.1 c (Nat.lt_succ_self c)).1).trans (em_c (a := nI 0)).1
        · have := a6 i (by omega)
          rw [show c + (i + 1) = c + 1 + i by omega]
          exact this
    · have ht : ¬ tpV (w + 1) h = nI 33 := by rw [tpV_s]; exact e
      exact en_end hok hr (by omega) ht (hQ h ⟨rfl, fun W => YK.rf _ _ _, 0, w + 1, o, rfl, rfl, fun i hi => absurd hi (Nat.not_lt_zero i), ht, hr, fun i hi => absurd hi (Nat.not_lt_zero i)⟩)
theorem cm_ends {E : En} (hok : EOK E) {b : Nat → Nat} {n p c w o : Nat} {h : Hp} (hb : HB b n) (hr : RS b n p c w o h) (no : NO h w o) : Call E m_X12_ends 2 0 0 [vR MO] h (EnP b n p c w o h) :=
  Call.enter hok (by decide) (Nat.le_of_ble_eq_true rfl) (en_go hok hb w c o h hr no (fun _ q => q))
