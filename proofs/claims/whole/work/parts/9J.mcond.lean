/-! the reference reads conditions -/
theorem TS.flat {b : Nat → Nat} {n q c w o : Nat} {F : Mng} {h : Hp} (t : TS b n q c w o F h) (hn : ¬ tpV w h = nI 33) : ∃ c1, RS b n q c1 w o h ∧ SRh h c c1 true F := by
  obtain ⟨c1, e, w', o', a0, a1, a2, a3, a4, a5, a6, a7⟩ := t
  rcases e with _ | e
  · have ew : w = w' := by omega
    have eo : o = o' := by omega
    subst ew
    subst eo
    exact ⟨c1, a6, a1⟩
  · exfalso
    apply hn
    have ew : w = w' + e + 1 := by omega
    subst ew
    rw [tpV_s]
    exact a4 e (Nat.lt_succ_self e)
theorem TS.not {b : Nat → Nat} {n q c w o : Nat} {F : Mng} {h : Hp} (t : TS b n q c (w + 1) (o + 1) F h) (es : h.1 (152, 0) w = nI 33) : TS b n q c w o (fNot F) h := by
  obtain ⟨c1, e, w', o', a0, a1, a2, a3, a4, a5, a6, a7⟩ := t
  rcases e with _ | e
  · exfalso
    apply a5
    have ew : w' = w + 1 := by omega
    rw [ew, tpV_s]
    exact es
  · refine ⟨c1 + 1, e, w', o', by omega, SR.non a1 (a7 0 (Nat.succ_pos e)), by omega, by omega, fun i hi => a4 i (by omega), a5, ?_, fun i hi => ?_⟩
    · rw [show c1 + 1 + e = c1 + (e + 1) by omega]
      exact a6
    · have := a7 (i + 1) (by omega)
      rw [show c1 + 1 + i = c1 + (i + 1) by omega]
      exact this
theorem TS.g {b : Nat → Nat} {n q c w o : Nat} {F : Mng} {h : Hp} (t : TS b n q c w o F h) : h.1 MO 45 = 0 := by
  obtain ⟨c1, e, w', o', a0, a1, a2, a3, a4, a5, a6, a7⟩ := t
  exact a6.g
set_option maxRecDepth 4000 in
theorem c_bad {E : En} (hok : EOK E) {h h0 : Hp} {Q : Option V → Hp → Prop} (hbad : ¬ h.1 MO 45 = 0) (hQ : Q none h) : G E m_X12_condition 6 0 0 Q h0 59 [some (vR MO), none] [] h 0 0 := by
  refine g_aload_n (pc' := 60) dX12_condition_59 rfl rfl ?_
  refine g_invV (pc' := 63) (cm_bad hok hbad) dX12_condition_60 rfl rfl ck_13 rfl ml_X12_271 im_X12_isGood sl_X12_isGood in_X12 co_X12_isGood pd_X12_isGood rfl (by omega) (by decide) ⟨by decide, by decide⟩ (Nat.le_of_ble_eq_true rfl) ?_
  rintro _ _ ⟨rfl, rfl⟩ -
  refine g_if_eqN (tgt := 37) (pc' := 66) dX12_condition_63 rfl (by decide) (by decide) (fun _ => ?_) (fun q => False.elim (by revert q; decide))
  refine g_aload_n (pc' := 38) dX12_condition_37 rfl rfl ?_
  refine g_invV (pc' := 41) (cm_bad hok hbad) dX12_condition_38 rfl rfl ck_13 rfl ml_X12_271 im_X12_isGood sl_X12_isGood in_X12 co_X12_isGood pd_X12_isGood rfl (by omega) (by decide) ⟨by decide, by decide⟩ (Nat.le_of_ble_eq_true rfl) ?_
  rintro _ _ ⟨rfl, rfl⟩ -
  refine g_if_eqN (tgt := 74) (pc' := 44) dX12_condition_41 rfl (by decide) (by decide) (fun _ => ?_) (fun q => False.elim (by revert q; decide))
  refine g_vret dX12_condition_74 rfl (by decide) (by decide) ?_
  exact hQ
set_option maxRecDepth 4000 in
theorem c_and {E : En} (hok : EOK E) {h h0 : Hp} {Q : Option V → Hp → Prop} {b : Nat → Nat} {n p c c0 w w0 o g : Nat} {A : Mng} (hb : HB b n) (hr : RS b n p c w o h) (hq : QA h c0 c w0 w A) (hg : g < 256) (htp : tpV w0 h = nI g) (hn : ¬ g = 38) (e : b p = 38) (ho : o ≤ 6) (e50 : h.1 MO 50 = nI 0) (no : NO h w0 o) (K : ∀ h' c', c ≤ c' → YK c w0 h h' → SRh h' c0 c' true A → h'.1 (152, 0) w0 = nI (b p) → FP b n A (p + 1) c' (w0 + 1) o h' → G E m_X12_condition 6 0 0 Q h0 59 [some (vR MO), none] [] h' 0 0) : G E m_X12_condition 6 0 0 Q h0 59 [some (vR MO), none] [] h 0 0 := by
  have hb1 := hb.1
  have hi := hr.i
  refine g_aload_n (pc' := 60) dX12_condition_59 rfl rfl ?_
  refine g_invV (pc' := 63) (cm_good hok hr.g) dX12_condition_60 rfl rfl ck_13 rfl ml_X12_271 im_X12_isGood sl_X12_isGood in_X12 co_X12_isGood pd_X12_isGood rfl (by omega) (by decide) ⟨by decide, by decide⟩ (Nat.le_of_ble_eq_true rfl) ?_
  rintro _ _ ⟨rfl, rfl⟩ -
  refine g_if_eqN (tgt := 37) (pc' := 66) dX12_condition_63 rfl (by decide) (by decide) (fun q => False.elim (by revert q; decide)) (fun _ => ?_)
  refine g_aload_n (pc' := 67) dX12_condition_66 rfl rfl ?_
  refine g_invV (pc' := 70) (gb_and hok hb hr hq hg htp hn e) dX12_condition_67 rfl rfl ck_13 rfl ml_X12_358 im_X12_goesBehind sl_X12_goesBehind in_X12 co_X12_goesBehind pd_X12_goesBehind rfl (by omega) (by decide) ⟨by decide, by decide⟩ (Nat.le_of_ble_eq_true rfl) ?_
  rintro _ h1 ⟨rfl, c1, hc1, hr1, k1, sr1, es⟩ -
  have no1 : NO h1 (w0 + 1) o := (no.k k1 (Nat.le_refl w0)).put es (hb.2.1 p) (by omega)
  have htp1 : tpV (w0 + 1) h1 = nI (b p) := (tpV_s w0 h1).trans es
  have hg1 : (¬ isTm (b p) ∧ ¬ isPl (b p)) ∧ ¬ b p = 91 := by rw [e]; unfold isTm isPl; omega
  have e501 : h1.1 MO 50 = nI 0 := (k1.2.2.1 50 rfl).trans e50
  refine g_istore_n (pc' := 71) dX12_condition_70 rfl (by decide) rfl ?_
  try simp only [List.set]
  refine g_goto (tgt := 37) dX12_condition_71 (by decide) ?_
  refine g_aload_n (pc' := 38) dX12_condition_37 rfl rfl ?_
  refine g_invV (pc' := 41) (cm_good hok hr1.g) dX12_condition_38 rfl rfl ck_13 rfl ml_X12_271 im_X12_isGood sl_X12_isGood in_X12 co_X12_isGood pd_X12_isGood rfl (by omega) (by decide) ⟨by decide, by decide⟩ (Nat.le_of_ble_eq_true rfl) ?_
  rintro _ _ ⟨rfl, rfl⟩ -
  refine g_if_eqN (tgt := 74) (pc' := 44) dX12_condition_41 rfl (by decide) (by decide) (fun q => False.elim (by revert q; decide)) (fun _ => ?_)
  refine g_aload_n (pc' := 45) dX12_condition_44 rfl rfl ?_
  refine g_getIv (v := nI (0)) (pc' := 48) (k := 50) dX12_condition_45 rfl rfl ck_13 (by decide) fl_X12_352 rfl (e501) ?_
  refine g_if_neN (tgt := 74) (pc' := 51) dX12_condition_48 rfl (by decide) (by decide) (fun q => False.elim (by revert q; decide)) (fun _ => ?_)
  refine g_iload_n (pc' := 52) dX12_condition_51 rfl rfl ?_
  refine g_if_eqN (tgt := 59) (pc' := 55) dX12_condition_52 rfl (by decide) (by decide) (fun q => False.elim (by revert q; decide)) (fun _ => ?_)
  refine g_aload_n (pc' := 56) dX12_condition_55 rfl rfl ?_
  refine g_invV (pc' := 59) (cm_piece hok A hb hr1 ho no1 (hb.2.1 p) htp1 hg1) dX12_condition_56 rfl rfl ck_13 rfl ml_X12_355 im_X12_pieceOfC sl_X12_pieceOfC in_X12 co_X12_pieceOfC pd_X12_pieceOfC rfl (by omega) (by decide) ⟨by decide, by decide⟩ (Nat.le_of_ble_eq_true rfl) ?_
  rintro _ h2 ⟨rfl, k2, fp⟩ -
  refine G.drop 1 ?_
  simp only [List.set]
  exact K h2 c1 hc1 (k1.tr k2 hc1 (Nat.le_succ w0)) (sr1.k k2 (Nat.le_refl c1)) ((k2.2.2.2.2 w0 (Nat.lt_succ_self w0)).trans es) fp
set_option maxRecDepth 4000 in
theorem c_or {E : En} (hok : EOK E) {h h0 : Hp} {Q : Option V → Hp → Prop} {b : Nat → Nat} {n p c c0 w w0 o g : Nat} {A : Mng} (hb : HB b n) (hr : RS b n p c w o h) (hq : QO h c0 c w0 w A) (hg : g < 256) (htp : tpV w0 h = nI g) (hn : ¬ g = 38 ∧ ¬ g = 124) (e : b p = 124) (ho : o ≤ 6) (e50 : h.1 MO 50 = nI 0) (no : NO h w0 o) (K : ∀ h' c', c ≤ c' → YK c w0 h h' → SRh h' c0 c' true A → h'.1 (152, 0) w0 = nI (b p) → FP b n A (p + 1) c' (w0 + 1) o h' → G E m_X12_condition 6 0 0 Q h0 59 [some (vR MO), none] [] h' 0 0) : G E m_X12_condition 6 0 0 Q h0 59 [some (vR MO), none] [] h 0 0 := by
  have hb1 := hb.1
  have hi := hr.i
  refine g_aload_n (pc' := 60) dX12_condition_59 rfl rfl ?_
  refine g_invV (pc' := 63) (cm_good hok hr.g) dX12_condition_60 rfl rfl ck_13 rfl ml_X12_271 im_X12_isGood sl_X12_isGood in_X12 co_X12_isGood pd_X12_isGood rfl (by omega) (by decide) ⟨by decide, by decide⟩ (Nat.le_of_ble_eq_true rfl) ?_
  rintro _ _ ⟨rfl, rfl⟩ -
  refine g_if_eqN (tgt := 37) (pc' := 66) dX12_condition_63 rfl (by decide) (by decide) (fun q => False.elim (by revert q; decide)) (fun _ => ?_)
  refine g_aload_n (pc' := 67) dX12_condition_66 rfl rfl ?_
  refine g_invV (pc' := 70) (gb_or hok hb hr hq hg htp hn e) dX12_condition_67 rfl rfl ck_13 rfl ml_X12_358 im_X12_goesBehind sl_X12_goesBehind in_X12 co_X12_goesBehind pd_X12_goesBehind rfl (by omega) (by decide) ⟨by decide, by decide⟩ (Nat.le_of_ble_eq_true rfl) ?_
  rintro _ h1 ⟨rfl, c1, hc1, hr1, k1, sr1, es⟩ -
  have no1 : NO h1 (w0 + 1) o := (no.k k1 (Nat.le_refl w0)).put es (hb.2.1 p) (by omega)
  have htp1 : tpV (w0 + 1) h1 = nI (b p) := (tpV_s w0 h1).trans es
  have hg1 : (¬ isTm (b p) ∧ ¬ isPl (b p)) ∧ ¬ b p = 91 := by rw [e]; unfold isTm isPl; omega
  have e501 : h1.1 MO 50 = nI 0 := (k1.2.2.1 50 rfl).trans e50
  refine g_istore_n (pc' := 71) dX12_condition_70 rfl (by decide) rfl ?_
  try simp only [List.set]
  refine g_goto (tgt := 37) dX12_condition_71 (by decide) ?_
  refine g_aload_n (pc' := 38) dX12_condition_37 rfl rfl ?_
  refine g_invV (pc' := 41) (cm_good hok hr1.g) dX12_condition_38 rfl rfl ck_13 rfl ml_X12_271 im_X12_isGood sl_X12_isGood in_X12 co_X12_isGood pd_X12_isGood rfl (by omega) (by decide) ⟨by decide, by decide⟩ (Nat.le_of_ble_eq_true rfl) ?_
  rintro _ _ ⟨rfl, rfl⟩ -
  refine g_if_eqN (tgt := 74) (pc' := 44) dX12_condition_41 rfl (by decide) (by decide) (fun q => False.elim (by revert q; decide)) (fun _ => ?_)
  refine g_aload_n (pc' := 45) dX12_condition_44 rfl rfl ?_
  refine g_getIv (v := nI (0)) (pc' := 48) (k := 50) dX12_condition_45 rfl rfl ck_13 (by decide) fl_X12_352 rfl (e501) ?_
  refine g_if_neN (tgt := 74) (pc' := 51) dX12_condition_48 rfl (by decide) (by decide) (fun q => False.elim (by revert q; decide)) (fun _ => ?_)
  refine g_iload_n (pc' := 52) dX12_condition_51 rfl rfl ?_
  refine g_if_eqN (tgt := 59) (pc' := 55) dX12_condition_52 rfl (by decide) (by decide) (fun q => False.elim (by revert q; decide)) (fun _ => ?_)
  refine g_aload_n (pc' := 56) dX12_condition_55 rfl rfl ?_
  refine g_invV (pc' := 59) (cm_piece hok A hb hr1 ho no1 (hb.2.1 p) htp1 hg1) dX12_condition_56 rfl rfl ck_13 rfl ml_X12_355 im_X12_pieceOfC sl_X12_pieceOfC in_X12 co_X12_pieceOfC pd_X12_pieceOfC rfl (by omega) (by decide) ⟨by decide, by decide⟩ (Nat.le_of_ble_eq_true rfl) ?_
  rintro _ h2 ⟨rfl, k2, fp⟩ -
  refine G.drop 1 ?_
  simp only [List.set]
  exact K h2 c1 hc1 (k1.tr k2 hc1 (Nat.le_succ w0)) (sr1.k k2 (Nat.le_refl c1)) ((k2.2.2.2.2 w0 (Nat.lt_succ_self w0)).trans es) fp
set_option maxRecDepth 4000 in
theorem c_badb {E : En} (hok : EOK E) {h h0 : Hp} {Q : Option V → Hp → Prop} {b : Nat → Nat} {n p c w o : Nat} (hb : HB b n) (hr : RS b n p c w o h) (n38 : ¬ b p = 38) (n124 : ¬ b p = 124) (n41 : ¬ b p = 41) (K : ∀ h', YK c w h h' → h'.1 MO 45 = bdv 1 p → Q none h') : G E m_X12_condition 6 0 0 Q h0 59 [some (vR MO), none] [] h 0 0 := by
  have hb1 := hb.1
  have hi := hr.i
  refine g_aload_n (pc' := 60) dX12_condition_59 rfl rfl ?_
  refine g_invV (pc' := 63) (cm_good hok hr.g) dX12_condition_60 rfl rfl ck_13 rfl ml_X12_271 im_X12_isGood sl_X12_isGood in_X12 co_X12_isGood pd_X12_isGood rfl (by omega) (by decide) ⟨by decide, by decide⟩ (Nat.le_of_ble_eq_true rfl) ?_
  rintro _ _ ⟨rfl, rfl⟩ -
  refine g_if_eqN (tgt := 37) (pc' := 66) dX12_condition_63 rfl (by decide) (by decide) (fun q => False.elim (by revert q; decide)) (fun _ => ?_)
  refine g_aload_n (pc' := 67) dX12_condition_66 rfl rfl ?_
  refine g_invV (pc' := 70) (gb_bad hok hb hr n38 n124 n41) dX12_condition_67 rfl rfl ck_13 rfl ml_X12_358 im_X12_goesBehind sl_X12_goesBehind in_X12 co_X12_goesBehind pd_X12_goesBehind rfl (by omega) (by decide) ⟨by decide, by decide⟩ (Nat.le_of_ble_eq_true rfl) ?_
  rintro _ h1 ⟨rfl, k1, e45⟩ -
  have hbad : ¬ h1.1 MO 45 = 0 := by
    rw [e45]
    exact bdv_ne (by decide) (by decide) (by omega)
  refine g_istore_n (pc' := 71) dX12_condition_70 rfl (by decide) rfl ?_
  try simp only [List.set]
  refine g_goto (tgt := 37) dX12_condition_71 (by decide) ?_
  refine g_aload_n (pc' := 38) dX12_condition_37 rfl rfl ?_
  refine g_invV (pc' := 41) (cm_bad hok hbad) dX12_condition_38 rfl rfl ck_13 rfl ml_X12_271 im_X12_isGood sl_X12_isGood in_X12 co_X12_isGood pd_X12_isGood rfl (by omega) (by decide) ⟨by decide, by decide⟩ (Nat.le_of_ble_eq_true rfl) ?_
  rintro _ _ ⟨rfl, rfl⟩ -
  refine g_if_eqN (tgt := 74) (pc' := 44) dX12_condition_41 rfl (by decide) (by decide) (fun _ => ?_) (fun q => False.elim (by revert q; decide))
  refine g_vret dX12_condition_74 rfl (by decide) (by decide) ?_
  exact K h1 k1 e45
set_option maxRecDepth 4000 in
theorem c_cl {E : En} (hok : EOK E) {h h0 : Hp} {Q : Option V → Hp → Prop} {b : Nat → Nat} {n p c c0 w w0 o g : Nat} {A : Mng} (hb : HB b n) (hr : RS b n p c w o h) (hq : QO h c0 c w0 w A) (hg : g < 256) (htp : tpV w0 h = nI g) (hn : ¬ g = 38 ∧ ¬ g = 124) (e : b p = 41) {w2 o1 : Nat} (ew : w0 = w2 + 1 + 1) (eo : o = o1 + 1) (e50 : h.1 MO 50 = nI 0) (no : NO h (w2 + 1) o1) (K : ∀ h', YK c (w2 + 1) h h' → TS b n (p + 1) c0 (w2 + 1) o1 A h' → G E m_X12_condition 6 0 0 Q h0 59 [some (vR MO), none] [] h' 0 0) : G E m_X12_condition 6 0 0 Q h0 59 [some (vR MO), none] [] h 0 0 := by
  have hb1 := hb.1
  have hi := hr.i
  refine g_aload_n (pc' := 60) dX12_condition_59 rfl rfl ?_
  refine g_invV (pc' := 63) (cm_good hok hr.g) dX12_condition_60 rfl rfl ck_13 rfl ml_X12_271 im_X12_isGood sl_X12_isGood in_X12 co_X12_isGood pd_X12_isGood rfl (by omega) (by decide) ⟨by decide, by decide⟩ (Nat.le_of_ble_eq_true rfl) ?_
  rintro _ _ ⟨rfl, rfl⟩ -
  refine g_if_eqN (tgt := 37) (pc' := 66) dX12_condition_63 rfl (by decide) (by decide) (fun q => False.elim (by revert q; decide)) (fun _ => ?_)
  refine g_aload_n (pc' := 67) dX12_condition_66 rfl rfl ?_
  refine g_invV (pc' := 70) (gb_cl hok hb hr hq hg htp hn e ew eo e50 no) dX12_condition_67 rfl rfl ck_13 rfl ml_X12_358 im_X12_goesBehind sl_X12_goesBehind in_X12 co_X12_goesBehind pd_X12_goesBehind rfl (by omega) (by decide) ⟨by decide, by decide⟩ (Nat.le_of_ble_eq_true rfl) ?_
  rintro _ h1 ⟨rfl, k1, ts⟩ -
  have e501 : h1.1 MO 50 = nI 0 := (k1.2.2.1 50 rfl).trans e50
  refine g_istore_n (pc' := 71) dX12_condition_70 rfl (by decide) rfl ?_
  try simp only [List.set]
  refine g_goto (tgt := 37) dX12_condition_71 (by decide) ?_
  refine g_aload_n (pc' := 38) dX12_condition_37 rfl rfl ?_
  refine g_invV (pc' := 41) (cm_good hok ts.g) dX12_condition_38 rfl rfl ck_13 rfl ml_X12_271 im_X12_isGood sl_X12_isGood in_X12 co_X12_isGood pd_X12_isGood rfl (by omega) (by decide) ⟨by decide, by decide⟩ (Nat.le_of_ble_eq_true rfl) ?_
  rintro _ _ ⟨rfl, rfl⟩ -
  refine g_if_eqN (tgt := 74) (pc' := 44) dX12_condition_41 rfl (by decide) (by decide) (fun q => False.elim (by revert q; decide)) (fun _ => ?_)
  refine g_aload_n (pc' := 45) dX12_condition_44 rfl rfl ?_
  refine g_getIv (v := nI (0)) (pc' := 48) (k := 50) dX12_condition_45 rfl rfl ck_13 (by decide) fl_X12_352 rfl (e501) ?_
  refine g_if_neN (tgt := 74) (pc' := 51) dX12_condition_48 rfl (by decide) (by decide) (fun q => False.elim (by revert q; decide)) (fun _ => ?_)
  refine g_iload_n (pc' := 52) dX12_condition_51 rfl rfl ?_
  refine g_if_eqN (tgt := 59) (pc' := 55) dX12_condition_52 rfl (by decide) (by decide) (fun _ => ?_) (fun q => False.elim (by revert q; decide))
  refine G.drop 1 ?_
  simp only [List.set]
  exact K h1 k1 ts
set_option maxRecDepth 4000 in
theorem c_over {E : En} (hok : EOK E) {h h0 : Hp} {Q : Option V → Hp → Prop} {b : Nat → Nat} {n p c c0 w w0 o g : Nat} {A : Mng} (hb : HB b n) (hr : RS b n p c w o h) (hq : QO h c0 c w0 w A) (hg : g < 256) (htp : tpV w0 h = nI g) (hn : ¬ g = 38 ∧ ¬ g = 124) (e : b p = 41) {o1 : Nat} (ew : w0 = 1) (eo : o = o1 + 1) (K : ∀ h' c' h2, c ≤ c' → RS b n (p + 1) c' 0 o1 h' → SRh h' c0 c' true A → YK c 0 h h2 → h' = wI h2 MO 50 (nI 1) → Q none h') : G E m_X12_condition 6 0 0 Q h0 59 [some (vR MO), none] [] h 0 0 := by
  have hb1 := hb.1
  have hi := hr.i
  refine g_aload_n (pc' := 60) dX12_condition_59 rfl rfl ?_
  refine g_invV (pc' := 63) (cm_good hok hr.g) dX12_condition_60 rfl rfl ck_13 rfl ml_X12_271 im_X12_isGood sl_X12_isGood in_X12 co_X12_isGood pd_X12_isGood rfl (by omega) (by decide) ⟨by decide, by decide⟩ (Nat.le_of_ble_eq_true rfl) ?_
  rintro _ _ ⟨rfl, rfl⟩ -
  refine g_if_eqN (tgt := 37) (pc' := 66) dX12_condition_63 rfl (by decide) (by decide) (fun q => False.elim (by revert q; decide)) (fun _ => ?_)
  refine g_aload_n (pc' := 67) dX12_condition_66 rfl rfl ?_
  refine g_invV (pc' := 70) (gb_over hok hb hr hq hg htp hn e ew eo) dX12_condition_67 rfl rfl ck_13 rfl ml_X12_358 im_X12_goesBehind sl_X12_goesBehind in_X12 co_X12_goesBehind pd_X12_goesBehind rfl (by omega) (by decide) ⟨by decide, by decide⟩ (Nat.le_of_ble_eq_true rfl) ?_
  rintro _ h1 ⟨rfl, c1, hc1, hr1, sr1, e501, h2, k2, eh⟩ -
  refine g_istore_n (pc' := 71) dX12_condition_70 rfl (by decide) rfl ?_
  try simp only [List.set]
  refine g_goto (tgt := 37) dX12_condition_71 (by decide) ?_
  refine g_aload_n (pc' := 38) dX12_condition_37 rfl rfl ?_
  refine g_invV (pc' := 41) (cm_good hok hr1.g) dX12_condition_38 rfl rfl ck_13 rfl ml_X12_271 im_X12_isGood sl_X12_isGood in_X12 co_X12_isGood pd_X12_isGood rfl (by omega) (by decide) ⟨by decide, by decide⟩ (Nat.le_of_ble_eq_true rfl) ?_
  rintro _ _ ⟨rfl, rfl⟩ -
  refine g_if_eqN (tgt := 74) (pc' := 44) dX12_condition_41 rfl (by decide) (by decide) (fun q => False.elim (by revert q; decide)) (fun _ => ?_)
  refine g_aload_n (pc' := 45) dX12_condition_44 rfl rfl ?_
  refine g_getIv (v := nI (1)) (pc' := 48) (k := 50) dX12_condition_45 rfl rfl ck_13 (by decide) fl_X12_352 rfl (e501) ?_
  refine g_if_neN (tgt := 74) (pc' := 51) dX12_condition_48 rfl (by decide) (by decide) (fun _ => ?_) (fun q => False.elim (by revert q; decide))
  refine g_vret dX12_condition_74 rfl (by decide) (by decide) ?_
  exact K h1 c1 h2 hc1 hr1 sr1 k2 eh
def P1 (E : En) (Q : Option V → Hp → Prop) (h0 : Hp) (b : Nat → Nat) (n u : Nat) : Prop := ∀ (A : Mng) (o p c w : Nat) (h : Hp), o ≤ 6 → p ≤ n → 0 < w → h.1 MO 50 = nI 0 → NO h w o → FP b n A p c w o h → (pc b u 1 A o p).1 ≠ 9 → ((pc b u 1 A o p).1 = 0 → ∀ h', YK c w h h' → (TS b n (pc b u 1 A o p).2.1 c w o (pc b u 1 A o p).2.2 h' ∨ (b (pc b u 1 A o p).2.1 = 93 ∧ h'.1 MO 45 = bdv 1 (pc b u 1 A o p).2.1)) → G E m_X12_condition 6 0 0 Q h0 59 [some (vR MO), none] [] h' 0 0) → (¬ (pc b u 1 A o p).1 = 0 → ∀ h', YK c w h h' → h'.1 MO 45 = bdv (pc b u 1 A o p).1 (pc b u 1 A o p).2.1 → Q none h') → G E m_X12_condition 6 0 0 Q h0 59 [some (vR MO), none] [] h 0 0
def P2 (E : En) (Q : Option V → Hp → Prop) (h0 : Hp) (b : Nat → Nat) (n u : Nat) : Prop := ∀ (A : Mng) (o p c w : Nat) (h : Hp), o ≤ 6 → p ≤ n → 0 < w → h.1 MO 50 = nI 0 → NO h w o → b p = 40 → FP b n A p c w o h → (pc b u 2 A o p).1 ≠ 9 → ((pc b u 2 A o p).1 = 0 → ∀ h', YK c w h h' → (TS b n (pc b u 2 A o p).2.1 c w o (pc b u 2 A o p).2.2 h' ∨ (b (pc b u 2 A o p).2.1 = 93 ∧ h'.1 MO 45 = bdv 1 (pc b u 2 A o p).2.1)) → G E m_X12_condition 6 0 0 Q h0 59 [some (vR MO), none] [] h' 0 0) → (¬ (pc b u 2 A o p).1 = 0 → ∀ h', YK c w h h' → h'.1 MO 45 = bdv (pc b u 2 A o p).1 (pc b u 2 A o p).2.1 → Q none h') → G E m_X12_condition 6 0 0 Q h0 59 [some (vR MO), none] [] h 0 0
def P3 (E : En) (Q : Option V → Hp → Prop) (h0 : Hp) (b : Nat → Nat) (n u : Nat) : Prop := ∀ (A : Mng) (o p c w : Nat) (h : Hp), o ≤ 6 → p ≤ n → 0 < w → h.1 MO 50 = nI 0 → NO h w o → tpV w h = nI 40 → FP b n A p c w o h → (pc b u 3 A o p).1 ≠ 9 → ((pc b u 3 A o p).1 = 0 → ∀ h', YK c w h h' → ((∃ c' w', RS b n (pc b u 3 A o p).2.1 c' w' o h' ∧ QO h' c c' w w' (pc b u 3 A o p).2.2) ∨ (b (pc b u 3 A o p).2.1 = 93 ∧ h'.1 MO 45 = bdv 1 (pc b u 3 A o p).2.1)) → ¬ b (pc b u 3 A o p).2.1 = 38 ∧ ¬ b (pc b u 3 A o p).2.1 = 124 → G E m_X12_condition 6 0 0 Q h0 59 [some (vR MO), none] [] h' 0 0) → (¬ (pc b u 3 A o p).1 = 0 → ∀ h', YK c w h h' → h'.1 MO 45 = bdv (pc b u 3 A o p).1 (pc b u 3 A o p).2.1 → Q none h') → G E m_X12_condition 6 0 0 Q h0 59 [some (vR MO), none] [] h 0 0
def P4 (E : En) (Q : Option V → Hp → Prop) (h0 : Hp) (b : Nat → Nat) (n u : Nat) : Prop := ∀ (A : Mng) (o p c w g : Nat) (h : Hp), o ≤ 6 → p ≤ n → 0 < w → h.1 MO 50 = nI 0 → NO h w o → tpV w h = nI g → (g = 40 ∨ g = 124) → FP b n A p c w o h → (pc b u 4 A o p).1 ≠ 9 → ((pc b u 4 A o p).1 = 0 → ∀ h', YK c w h h' → ((∃ c' w', RS b n (pc b u 4 A o p).2.1 c' w' o h' ∧ QA h' c c' w w' (pc b u 4 A o p).2.2) ∨ (b (pc b u 4 A o p).2.1 = 93 ∧ h'.1 MO 45 = bdv 1 (pc b u 4 A o p).2.1)) → ¬ b (pc b u 4 A o p).2.1 = 38 → G E m_X12_condition 6 0 0 Q h0 59 [some (vR MO), none] [] h' 0 0) → (¬ (pc b u 4 A o p).1 = 0 → ∀ h', YK c w h h' → h'.1 MO 45 = bdv (pc b u 4 A o p).1 (pc b u 4 A o p).2.1 → Q none h') → G E m_X12_condition 6 0 0 Q h0 59 [some (vR MO), none] [] h 0 0
def P5 (E : En) (Q : Option V → Hp → Prop) (h0 : Hp) (b : Nat → Nat) (n u : Nat) : Prop := ∀ (A : Mng) (o p c0 c w0 w : Nat) (h : Hp), o ≤ 6 → 0 < w0 → h.1 MO 50 = nI 0 → NO h w0 o → tpV w0 h = nI 40 → RS b n p c w o h → QO h c0 c w0 w A → ¬ b p = 38 → (pc b u 5 A o p).1 ≠ 9 → ((pc b u 5 A o p).1 = 0 → ∀ h', YK c0 w0 h h' → ((∃ c' w', RS b n (pc b u 5 A o p).2.1 c' w' o h' ∧ QO h' c0 c' w0 w' (pc b u 5 A o p).2.2) ∨ (b (pc b u 5 A o p).2.1 = 93 ∧ h'.1 MO 45 = bdv 1 (pc b u 5 A o p).2.1)) → ¬ b (pc b u 5 A o p).2.1 = 38 ∧ ¬ b (pc b u 5 A o p).2.1 = 124 → G E m_X12_condition 6 0 0 Q h0 59 [some (vR MO), none] [] h' 0 0) → (¬ (pc b u 5 A o p).1 = 0 → ∀ h', YK c0 w0 h h' → h'.1 MO 45 = bdv (pc b u 5 A o p).1 (pc b u 5 A o p).2.1 → Q none h') → G E m_X12_condition 6 0 0 Q h0 59 [some (vR MO), none] [] h 0 0
def P6 (E : En) (Q : Option V → Hp → Prop) (h0 : Hp) (b : Nat → Nat) (n u : Nat) : Prop := ∀ (A : Mng) (o p c0 c w0 w g : Nat) (h : Hp), o ≤ 6 → 0 < w0 → h.1 MO 50 = nI 0 → NO h w0 o → tpV w0 h = nI g → (g = 40 ∨ g = 124) → RS b n p c w o h → QA h c0 c w0 w A → (pc b u 6 A o p).1 ≠ 9 → ((pc b u 6 A o p).1 = 0 → ∀ h', YK c0 w0 h h' → ((∃ c' w', RS b n (pc b u 6 A o p).2.1 c' w' o h' ∧ QA h' c0 c' w0 w' (pc b u 6 A o p).2.2) ∨ (b (pc b u 6 A o p).2.1 = 93 ∧ h'.1 MO 45 = bdv 1 (pc b u 6 A o p).2.1)) → ¬ b (pc b u 6 A o p).2.1 = 38 → G E m_X12_condition 6 0 0 Q h0 59 [some (vR MO), none] [] h' 0 0) → (¬ (pc b u 6 A o p).1 = 0 → ∀ h', YK c0 w0 h h' → h'.1 MO 45 = bdv (pc b u 6 A o p).1 (pc b u 6 A o p).2.1 → Q none h') → G E m_X12_condition 6 0 0 Q h0 59 [some (vR MO), none] [] h 0 0
theorem cbadK {E : En} (hok : EOK E) {Q : Option V → Hp → Prop} {h0 h : Hp} {c w f q : Nat} (hf0 : 0 < f) (hf : f ≤ 9) (hq : q ≤ 300) (e : h.1 MO 45 = bdv f q) (K : ∀ h', YK c w h h' → h'.1 MO 45 = bdv f q → Q none h') : G E m_X12_condition 6 0 0 Q h0 59 [some (vR MO), none] [] h 0 0 :=
  c_bad hok (by rw [e]; exact bdv_ne hf0 hf hq) (K _ (YK.rf c w h) e)
theorem pc6_93 {b : Nat → Nat} {u o p : Nat} {A : Mng} (e : b p = 93) (hne : (pc b u 6 A o p).1 ≠ 9) : pc b u 6 A o p = (0, p, A) := by
  rcases u with _ | u
  · exact absurd rfl hne
  · exact cif_f (by omega)
theorem pc5_93 {b : Nat → Nat} {u o p : Nat} {A : Mng} (e : b p = 93) (hne : (pc b u 5 A o p).1 ≠ 9) : pc b u 5 A o p = (0, p, A) := by
  rcases u with _ | u
  · exact absurd rfl hne
  · exact cif_f (by omega)
theorem p1_step {E : En} (hok : EOK E) {Q : Option V → Hp → Prop} {h0 : Hp} {b : Nat → Nat} {n u : Nat} (hb : HB b n) (h1 : P1 E Q h0 b n u) (h2 : P2 E Q h0 b n u) : P1 E Q h0 b n (u + 1) := by
  intro A o p c w h ho hp hw e50 no fp hne hok1 hbad
  have hb1 := hb.1
  have pk := pc_ok hb (u + 1) 1 A o p hp
  have pk1 := pk.1
  have pk2 := pk.2.1
  rw [pc_1] at hne hok1 hbad pk1 pk2
  by_cases e40 : b p = 40
  · rw [cif_t e40] at hne hok1 hbad
    exact h2 A o p c w h ho hp hw e50 no e40 fp hne hok1 hbad
  · rw [cif_f e40] at hne hok1 hbad pk1 pk2
    by_cases e33 : b p = 33
    · rw [cif_t e33] at hne hok1 hbad
      by_cases ho6 : 6 ≤ o
      · rw [cif_t ho6] at hbad
        exact cbadK (f := 5) (q := p) hok (by decide) (by decide) (by omega) (fp.full (Or.inl e33) ho6) (hbad (by show ¬ (5 : Nat) = 0; decide))
      · rw [cif_f ho6] at hne hok1 hbad
        have hlt := hb.lt (p := p) (by omega)
        obtain ⟨es, fp2⟩ := fp.opn (Or.inl e33) (by omega)
        rw [e33] at es
        refine h1 A (o + 1) (p + 1) c (w + 1) h (by omega) (by omega) (by omega) e50 no.put1 fp2 (bnd_9 hne) (fun e h' k' al => ?_) (fun e h' k' e45 => ?_)
        · rw [bnd_t e] at hok1
          refine hok1 rfl h' (k'.le (Nat.le_refl c) (Nat.le_succ w)) ?_
          rcases al with ts | al
          · exact Or.inl (ts.not ((k'.2.2.2.2 w (Nat.lt_succ_self w)).trans es))
          · exact Or.inr al
        · rw [bnd_f e] at hbad
          exact hbad e h' (k'.le (Nat.le_refl c) (Nat.le_succ w)) e45
    · rw [cif_f e33] at hne hok1 hbad pk1 pk2
      rcases u with _ | u
      · exact absurd rfl hne
      · have cq := fp.atom (fun z => by rcases z with z | z; exact e33 z; exact e40 z)
        have eq : pc b (u + 1) 0 A o p = cmR b o p A := rfl
        rw [eq] at hne hok1 hbad pk1 pk2
        by_cases e : (cmR b o p A).1 = 0
        · exact hok1 e h (YK.rf _ _ _) (cq.1 e)
        · exact cbadK hok (by omega) pk2 (by omega) (cq.2 e) (hbad e)
theorem p2_step {E : En} (hok : EOK E) {Q : Option V → Hp → Prop} {h0 : Hp} {b : Nat → Nat} {n u : Nat} (hb : HB b n) (h3 : P3 E Q h0 b n u) : P2 E Q h0 b n (u + 1) := by
  intro A o p c w h ho hp hw e50 no e40 fp hne hok1 hbad
  have hb1 := hb.1
  rw [pc_2, cif_t e40] at hne hok1 hbad
  by_cases ho6 : 6 ≤ o
  · rw [cif_t ho6] at hbad
    exact cbadK (f := 5) (q := p) hok (by decide) (by decide) (by omega) (fp.full (Or.inr e40) ho6) (hbad (by show ¬ (5 : Nat) = 0; decide))
  · rw [cif_f ho6] at hne hok1 hbad
    have hlt := hb.lt (p := p) (by omega)
    obtain ⟨es, fp2⟩ := fp.opn (Or.inr e40) (by omega)
    rw [e40] at es
    have pk := pc_ok hb u 3 A (o + 1) (p + 1) (by omega)
    have pk1 := pk.1
    refine h3 A (o + 1) (p + 1) c (w + 1) h (by omega) (by omega) (by omega) e50 no.put1 ((tpV_s w h).trans es) fp2 (bnd_9 hne) (fun e h' k' al nb => ?_) (fun e h' k' e45 => ?_)
    · rw [bnd_t e] at hok1 hbad
      have kw : YK c w h h' := k'.le (Nat.le_refl c) (Nat.le_succ w)
      by_cases e41 : b (pc b u 3 A (o + 1) (p + 1)).2.1 = 41
      · rw [cif_t e41] at hok1
        rcases al with ⟨c', w', r', q'⟩ | ⟨z, _⟩
        · have cw := q'.w
          obtain ⟨w2, rfl⟩ : ∃ w2, w = w2 + 1 := ⟨w - 1, by omega⟩
          refine c_cl hok hb r' q' (g := 40) (by decide) ((tpV_k k').trans ((tpV_s (w2 + 1) h).trans es)) (by omega) e41 rfl rfl ((k'.2.2.1 50 rfl).trans e50) (no.k kw (Nat.le_refl _)) (fun h2 k2 ts => ?_)
          exact hok1 rfl h2 (kw.tr (k2.le (show c ≤ c' by omega) (Nat.le_refl _)) (Nat.le_refl c) (Nat.le_refl _)) (Or.inl ts)
        · omega
      · rw [cif_f e41] at hbad
        have hb2 := hbad (by show ¬ (1 : Nat) = 0; decide)
        rcases al with ⟨c', w', r', q'⟩ | ⟨_, e45⟩
        · have cw := q'.w
          exact c_badb hok hb r' nb.1 nb.2 e41 (fun h2 k2 e45 => hb2 h2 (kw.tr (k2.le (show c ≤ c' by omega) (show w ≤ w' by omega)) (Nat.le_refl c) (Nat.le_refl w)) e45)
        · exact cbadK (c := c) (w := w) hok (by decide) (by decide) (by omega) e45 (fun h2 k2 e452 => hb2 h2 (kw.tr k2 (Nat.le_refl c) (Nat.le_refl w)) e452)
    · rw [bnd_f e] at hbad
      exact hbad e h' (k'.le (Nat.le_refl c) (Nat.le_succ w)) e45
theorem p3_step {E : En} (hok : EOK E) {Q : Option V → Hp → Prop} {h0 : Hp} {b : Nat → Nat} {n u : Nat} (hb : HB b n) (h4 : P4 E Q h0 b n u) (h5 : P5 E Q h0 b n u) : P3 E Q h0 b n (u + 1) := by
  intro A o p c w h ho hp hw e50 no htp fp hne hok1 hbad
  rw [pc_3] at hne hok1 hbad
  refine h4 A o p c w 40 h ho hp hw e50 no htp (Or.inl rfl) fp (bnd_9 hne) (fun e h' k' al nb => ?_) (fun e h' k' e45 => ?_)
  · rw [bnd_t e] at hne hok1 hbad
    rcases al with ⟨c', w', r', q'⟩ | ⟨e93, e45⟩
    · refine h5 _ o _ c c' w w' h' ho hw ((k'.2.2.1 50 rfl).trans e50) (no.k k' (Nat.le_refl w)) ((tpV_k k').trans htp) r' (Or.inl q') nb hne (fun e2 h2 k2 al2 nb2 => ?_) (fun e2 h2 k2 e45 => ?_)
      · exact hok1 e2 h2 (k'.tr k2 (Nat.le_refl _) (Nat.le_refl _)) al2 nb2
      · exact hbad e2 h2 (k'.tr k2 (Nat.le_refl _) (Nat.le_refl _)) e45
    · have eq := pc5_93 e93 hne
      rw [eq] at hok1
      exact hok1 rfl h' k' (Or.inr ⟨e93, e45⟩) ⟨nb, by show ¬ b (pc b u 4 A o p).2.1 = 124; omega⟩
  · rw [bnd_f e] at hbad
    exact hbad e h' k' e45
theorem p4_step {E : En} (hok : EOK E) {Q : Option V → Hp → Prop} {h0 : Hp} {b : Nat → Nat} {n u : Nat} (hb : HB b n) (h1 : P1 E Q h0 b n u) (h6 : P6 E Q h0 b n u) : P4 E Q h0 b n (u + 1) := by
  intro A o p c w g h ho hp hw e50 no htp hg fp hne hok1 hbad
  rw [pc_4] at hne hok1 hbad
  refine h1 A o p c w h ho hp hw e50 no fp (bnd_9 hne) (fun e h' k' al => ?_) (fun e h' k' e45 => ?_)
  · rw [bnd_t e] at hne hok1 hbad
    have tp2 : tpV w h' = nI g := (tpV_k k').trans htp
    rcases al with ts | ⟨e93, e45⟩
    · obtain ⟨c1, r', s'⟩ := ts.flat (by rw [tp2]; exact fun z => by have := (nI_eq (by omega) (by decide)).mp z; omega)
      refine h6 _ o _ c c1 w w g h' ho hw ((k'.2.2.1 50 rfl).trans e50) (no.k k' (Nat.le_refl w)) tp2 hg r' (Or.inl ⟨rfl, s'⟩) hne (fun e2 h2 k2 al2 nb2 => ?_) (fun e2 h2 k2 e45 => ?_)
      · exact hok1 e2 h2 (k'.tr k2 (Nat.le_refl _) (Nat.le_refl _)) al2 nb2
      · exact hbad e2 h2 (k'.tr k2 (Nat.le_refl _) (Nat.le_refl _)) e45
    · have eq := pc6_93 e93 hne
      rw [eq] at hok1
      exact hok1 rfl h' k' (Or.inr ⟨e93, e45⟩) (by show ¬ b (pc b u 1 A o p).2.1 = 38; omega)
  · rw [bnd_f e] at hbad
    exact hbad e h' k' e45
theorem p5_step {E : En} (hok : EOK E) {Q : Option V → Hp → Prop} {h0 : Hp} {b : Nat → Nat} {n u : Nat} (hb : HB b n) (h4 : P4 E Q h0 b n u) (h5 : P5 E Q h0 b n u) : P5 E Q h0 b n (u + 1) := by
  intro A o p c0 c w0 w h ho hw e50 no htp hr hq n38 hne hok1 hbad
  have hi := hr.i
  by_cases e : b p = 124
  · rw [pc_5, cif_t e] at hne hok1 hbad
    have hlt := hb.lt (p := p) (by omega)
    have cw := hq.w
    refine c_or hok hb hr hq (g := 40) (by decide) htp (by decide) e ho e50 no (fun h1 c1 hc1 k1 s1 es fp => ?_)
    have k1' : YK c0 w0 h h1 := k1.le (by omega) (Nat.le_refl w0)
    rw [e] at es
    refine h4 A o (p + 1) c1 (w0 + 1) 124 h1 ho (by omega) (by omega) ((k1.2.2.1 50 rfl).trans e50) ((no.k k1 (Nat.le_refl w0)).put es (by decide) (by decide)) ((tpV_s w0 h1).trans es) (Or.inr rfl) fp (bnd_9 hne) (fun e2 h' k' al nb => ?_) (fun e2 h' k' e45 => ?_)
    · rw [bnd_t e2] at hne hok1 hbad
      have kk : YK c0 w0 h h' := k1'.tr k' (by have := s1.lt; omega) (Nat.le_succ w0)
      rcases al with ⟨c', w', r', q'⟩ | ⟨e93, e45⟩
      · refine h5 _ o _ c0 c' w0 w' h' ho hw ((kk.2.2.1 50 rfl).trans e50) (no.k kk (Nat.le_refl w0)) ((tpV_k kk).trans htp) r' (Or.inr ⟨c1, A, _, (k'.2.2.2.2 w0 (Nat.lt_succ_self w0)).trans es, s1.k k' (Nat.le_refl c1), q', rfl⟩) nb hne (fun e3 h2 k2 al2 nb2 => ?_) (fun e3 h2 k2 e45 => ?_)
        · exact hok1 e3 h2 (kk.tr k2 (Nat.le_refl _) (Nat.le_refl _)) al2 nb2
        · exact hbad e3 h2 (kk.tr k2 (Nat.le_refl _) (Nat.le_refl _)) e45
      · have eq := pc5_93 e93 hne
        rw [eq] at hok1
        exact hok1 rfl h' kk (Or.inr ⟨e93, e45⟩) ⟨nb, by show ¬ b (pc b u 4 A o (p + 1)).2.1 = 124; omega⟩
    · rw [bnd_f e2] at hbad
      exact hbad e2 h' (k1'.tr k' (by have := s1.lt; omega) (Nat.le_succ w0)) e45
  · rw [pc_5, cif_f e] at hok1
    exact hok1 rfl h (YK.rf _ _ _) (Or.inl ⟨c, w, hr, hq⟩) ⟨n38, e⟩
theorem p6_step {E : En} (hok : EOK E) {Q : Option V → Hp → Prop} {h0 : Hp} {b : Nat → Nat} {n u : Nat} (hb : HB b n) (h1' : P1 E Q h0 b n u) (h6 : P6 E Q h0 b n u) : P6 E Q h0 b n (u + 1) := by
  intro A o p c0 c w0 w g h ho hw e50 no htp hg hr hq hne hok1 hbad
  have hi := hr.i
  by_cases e : b p = 38
  · rw [pc_6, cif_t e] at hne hok1 hbad
    have hlt := hb.lt (p := p) (by omega)
    have cw := hq.w
    refine c_and hok hb hr hq (g := g) (by omega) htp (by omega) e ho e50 no (fun h1 c1 hc1 k1 s1 es fp => ?_)
    have k1' : YK c0 w0 h h1 := k1.le (by omega) (Nat.le_refl w0)
    rw [e] at es
    refine h1' A o (p + 1) c1 (w0 + 1) h1 ho (by omega) (by omega) ((k1.2.2.1 50 rfl).trans e50) ((no.k k1 (Nat.le_refl w0)).put es (by decide) (by decide)) fp (bnd_9 hne) (fun e2 h' k' al => ?_) (fun e2 h' k' e45 => ?_)
    · rw [bnd_t e2] at hne hok1 hbad
      have kk : YK c0 w0 h h' := k1'.tr k' (by have := s1.lt; omega) (Nat.le_succ w0)
      have es' : h'.1 (152, 0) w0 = nI 38 := (k'.2.2.2.2 w0 (Nat.lt_succ_self w0)).trans es
      rcases al with ts | ⟨e93, e45⟩
      · obtain ⟨c', r', s'⟩ := ts.flat (by rw [tpV_s, es']; decide)
        refine h6 _ o _ c0 c' w0 (w0 + 1) g h' ho hw ((kk.2.2.1 50 rfl).trans e50) (no.k kk (Nat.le_refl w0)) ((tpV_k kk).trans htp) hg r' (Or.inr ⟨c1, A, _, rfl, es', s1.k k' (Nat.le_refl c1), s', rfl⟩) hne (fun e3 h2 k2 al2 nb2 => ?_) (fun e3 h2 k2 e45 => ?_)
        · exact hok1 e3 h2 (kk.tr k2 (Nat.le_refl _) (Nat.le_refl _)) al2 nb2
        · exact hbad e3 h2 (kk.tr k2 (Nat.le_refl _) (Nat.le_refl _)) e45
      · have eq := pc6_93 e93 hne
        rw [eq] at hok1
        exact hok1 rfl h' kk (Or.inr ⟨e93, e45⟩) (by show ¬ b (pc b u 1 A o (p + 1)).2.1 = 38; omega)
    · rw [bnd_f e2] at hbad
      exact hbad e2 h' (k1'.tr k' (by have := s1.lt; omega) (Nat.le_succ w0)) e45
  · rw [pc_6, cif_f e] at hok1
    exact hok1 rfl h (YK.rf _ _ _) (Or.inl ⟨c, w, hr, hq⟩) e
theorem p_all {E : En} (hok : EOK E) {Q : Option V → Hp → Prop} {h0 : Hp} {b : Nat → Nat} {n : Nat} (hb : HB b n) : ∀ u, P1 E Q h0 b n u ∧ P2 E Q h0 b n u ∧ P3 E Q h0 b n u ∧ P4 E Q h0 b n u ∧ P5 E Q h0 b n u ∧ P6 E Q h0 b n u
  | 0 => ⟨fun _ _ _ _ _ _ _ _ _ _ _ _ z => absurd rfl z, fun _ _ _ _ _ _ _ _ _ _ _ _ _ z => absurd rfl z, fun _ _ _ _ _ _ _ _ _ _ _ _ _ z => absurd rfl z, fun _ _ _ _ _ _ _ _ _ _ _ _ _ _ _ z => absurd rfl z, fun _ _ _ _ _ _ _ _ _ _ _ _ _ _ _ _ z => absurd rfl z, fun _ _ _ _ _ _ _ _ _ _ _ _ _ _ _ _ _ z => absurd rfl z⟩
  | u + 1 => by
    obtain ⟨a, c, d, e, f, g⟩ := p_all hok hb u
    exact ⟨p1_step hok hb a c, p2_step hok hb d, p3_step hok hb e f, p4_step hok hb a g, p5_step hok hb e f, p6_step hok hb a g⟩
/-- what condition() does -/
def yz (j : Nat) : Bool := yk j || Nat.beq j 50
def YZ (c : Nat) (h h' : Hp) : Prop := h'.2 = h.2 ∧ (∀ a : Ad, a ≠ MO → a ≠ (141, 0) → a ≠ (142, 0) → a ≠ (152, 0) → h'.1 a = h.1 a) ∧ (∀ j, yz j = false → h'.1 MO j = h.1 MO j) ∧ ∀ j, j < c → h'.1 (141, 0) j = h.1 (141, 0) j ∧ h'.1 (142, 0) j = h.1 (142, 0) j
theorem yz_k {j : Nat} (h : yz j = false) : yk j = false := by
  unfold yz at h
  cases z : yk j with
  | false => rfl
  | true => rw [z] at h; cases h
theorem YK.z {c w : Nat} {h h' : Hp} (k : YK c w h h') : YZ c h h' := ⟨k.1, k.2.1, fun j hj => k.2.2.1 j (yz_k hj), k.2.2.2.1⟩
theorem YZ.tr {c c1 : Nat} {h h1 h2 : Hp} (x : YZ c h h1) (y : YZ c1 h1 h2) (hc : c ≤ c1) : YZ c h h2 :=
  ⟨y.1.trans x.1, fun a q1 q2 q3 q4 => (y.2.1 a q1 q2 q3 q4).trans (x.2.1 a q1 q2 q3 q4), fun j hj => (y.2.2.1 j hj).trans (x.2.2.1 j hj), fun j hj => ⟨(y.2.2.2 j (by omega)).1.trans (x.2.2.2 j hj).1, (y.2.2.2 j (by omega)).2.trans (x.2.2.2 j hj).2⟩⟩
theorem YZ.w50 {c : Nat} {x : Int32} {h h1 : Hp} (k : YZ c h h1) : YZ c h (wI h1 MO 50 x) :=
  ⟨k.1, fun a q1 q2 q3 q4 => (wI_off _ _ _ _ a q1).trans (k.2.1 a q1 q2 q3 q4), fun i hi => (wI_f (fun z => by rw [z] at hi; cases hi)).trans (k.2.2.1 i hi), k.2.2.2⟩
theorem YZ.rf (c : Nat) (h : Hp) : YZ c h h := (YK.rf c 0 h).z
def CoP (b : Nat → Nat) (n p c : Nat) (A : Mng) (h : Hp) (r : Option V) (h' : Hp) : Prop := r = none ∧ YZ c h h' ∧ ((pc b 1300 2 A 0 p).1 = 0 → ∃ c', c < c' ∧ RS b n (pc b 1300 2 A 0 p).2.1 c' 0 0 h' ∧ SRh h' c c' true (pc b 1300 2 A 0 p).2.2) ∧ (¬ (pc b 1300 2 A 0 p).1 = 0 → h'.1 MO 45 = bdv (pc b 1300 2 A 0 p).1 (pc b 1300 2 A 0 p).2.1)
set_option maxRecDepth 4000 in
theorem cm_cond {E : En} (hok : EOK E) {h : Hp} {b : Nat → Nat} {n p c : Nat} (A : Mng) (hb : HB b n) (hr : RS b n p c 0 0 h) : Call E m_X12_condition 6 0 0 [vR MO] h (CoP b n p c A h) := by
  have hb1 := hb.1
  have h256 := hb.2.1 p
  have hi := hr.i
  have hp4 : p ≤ 400 := by omega
  refine Call.enter hok (by decide) (Nat.le_of_ble_eq_true rfl) ?_
  show G E m_X12_condition 6 0 0 _ h 0 [some (vR MO), none] [] h 0 0
  refine g_aload_n (pc' := 1) dX12_condition_0 rfl rfl ?_
  refine g_iconstN (n := 0) (pc' := 2) dX12_condition_1 rfl ?_
  refine g_putI (pc' := 5) (k := 50) dX12_condition_2 rfl rfl ck_13 (by decide) fl_X12_352 rfl rfl (by rfl) (by rfl) ?_
  refine g_aload_n (pc' := 6) dX12_condition_5 rfl rfl ?_
  refine g_invV (pc' := 9) (cm_here (h := (wI h MO 50 (nI 0))) hok hb hr.1 hr.2.1 hp4) dX12_condition_6 rfl rfl ck_13 rfl ml_X12_288 im_X12_here sl_X12_here in_X12 co_X12_here pd_X12_here rfl (by omega) (by decide) ⟨by decide, by decide⟩ (Nat.le_of_ble_eq_true rfl) ?_
  rintro _ _ ⟨rfl, rfl⟩ -
  refine g_bipushN (n := 40) (pc' := 11) dX12_condition_9 rfl (by decide) ?_
  refine g_icmp_eqN (tgt := 23) (pc' := 14) dX12_condition_11 rfl (by decide) (by omega) (by omega) (fun c11 => ?_) (fun c11 => ?_)
  ·
    refine g_aload_n (pc' := 24) dX12_condition_23 rfl rfl ?_
    refine g_invV (pc' := 27) (cm_good (h := (wI h MO 50 (nI 0))) hok hr.g) dX12_condition_24 rfl rfl ck_13 rfl ml_X12_271 im_X12_isGood sl_X12_isGood in_X12 co_X12_isGood pd_X12_isGood rfl (by omega) (by decide) ⟨by decide, by decide⟩ (Nat.le_of_ble_eq_true rfl) ?_
    rintro _ _ ⟨rfl, rfl⟩ -
    refine g_if_neN (tgt := 31) (pc' := 30) dX12_condition_27 rfl (by decide) (by decide) (fun _ => ?_) (fun q => False.elim (by revert q; decide))
    refine g_aload_n (pc' := 32) dX12_condition_31 rfl rfl ?_
    refine g_invV (pc' := 35) (cm_opens (h := (wI h MO 50 (nI 0))) (w := 0) (o := 0) hok hb hr.1 hr.2.1 hp4 hr.g hr.2.2.2.1 hr.2.2.2.2.1 (by decide) (by decide)) dX12_condition_32 rfl rfl ck_13 rfl ml_X12_317 im_X12_opens sl_X12_opens in_X12 co_X12_opens pd_X12_opens rfl (by omega) (by decide) ⟨by decide, by decide⟩ (Nat.le_of_ble_eq_true rfl) ?_
    rintro _ _ ⟨rfl, rfl⟩ -
    rw [if_neg (by decide)]
    have hlt := hb.lt (p := p) (by omega)
    have hrO : RS b n (p + 1) c 1 1 (ptH 0 p (nI (b p)) (wI (wI h MO 50 (nI 0)) MO 48 (nI (0 + 1)))) := ⟨RT.k (h := (wI h MO 50 (nI 0))) hr.1 (((YK.rf 0 0 (wI h MO 50 (nI 0))).f rfl).put (Nat.zero_le 0)), rfl, hr.2.2.1, rfl, rfl, hr.g, by omega, by omega⟩
    have kO : YK c 0 (wI h MO 50 (nI 0)) (ptH 0 p (nI (b p)) (wI (wI h MO 50 (nI 0)) MO 48 (nI (0 + 1)))) := ((YK.rf c 0 (wI h MO 50 (nI 0))).f rfl).put (Nat.le_refl 0)
    have tpO : tpV 1 (ptH 0 p (nI (b p)) (wI (wI h MO 50 (nI 0)) MO 48 (nI (0 + 1)))) = nI 40 := (tpV_s 0 _).trans ((wI_same (wI (wI h MO 50 (nI 0)) MO 48 (nI (0 + 1))) (152, 0) 0 (nI (b p))).trans (by rw [c11]))
    have noO : NO (ptH 0 p (nI (b p)) (wI (wI h MO 50 (nI 0)) MO 48 (nI (0 + 1)))) 1 1 := by
      have z : NO (ptH 0 p (nI (b p)) (wI (wI h MO 50 (nI 0)) MO 48 (nI (0 + 1)))) 0 0 := Nat.le_refl 0
      exact z.put1
    refine g_iconstN (n := 1) (pc' := 36) dX12_condition_35 rfl ?_
    refine g_istore_n (pc' := 37) dX12_condition_36 rfl (by decide) rfl ?_
    try simp only [List.set]
    refine g_aload_n (pc' := 38) dX12_condition_37 rfl rfl ?_
    refine g_invV (pc' := 41) (cm_good (h := (ptH 0 p (nI (b p)) (wI (wI h MO 50 (nI 0)) MO 48 (nI (0 + 1))))) hok hrO.g) dX12_condition_38 rfl rfl ck_13 rfl ml_X12_271 im_X12_isGood sl_X12_isGood in_X12 co_X12_isGood pd_X12_isGood rfl (by omega) (by decide) ⟨by decide, by decide⟩ (Nat.le_of_ble_eq_true rfl) ?_
    rintro _ _ ⟨rfl, rfl⟩ -
    refine g_if_eqN (tgt := 74) (pc' := 44) dX12_condition_41 rfl (by decide) (by decide) (fun q => False.elim (by revert q; decide)) (fun _ => ?_)
    refine g_aload_n (pc' := 45) dX12_condition_44 rfl rfl ?_
    refine g_getIv (v := nI (0)) (pc' := 48) (k := 50) dX12_condition_45 rfl rfl ck_13 (by decide) fl_X12_352 rfl (rfl) ?_
    refine g_if_neN (tgt := 74) (pc' := 51) dX12_condition_48 rfl (by decide) (by decide) (fun q => False.elim (by revert q; decide)) (fun _ => ?_)
    refine g_iload_n (pc' := 52) dX12_condition_51 rfl rfl ?_
    refine g_if_eqN (tgt := 59) (pc' := 55) dX12_condition_52 rfl (by decide) (by decide) (fun q => False.elim (by revert q; decide)) (fun _ => ?_)
    refine g_aload_n (pc' := 56) dX12_condition_55 rfl rfl ?_
    refine g_invV (pc' := 59) (cm_piece hok A hb hrO (by decide) noO (g := 40) (by decide) tpO (by unfold isTm isPl; omega)) dX12_condition_56 rfl rfl ck_13 rfl ml_X12_355 im_X12_pieceOfC sl_X12_pieceOfC in_X12 co_X12_pieceOfC pd_X12_pieceOfC rfl (by omega) (by decide) ⟨by decide, by decide⟩ (Nat.le_of_ble_eq_true rfl) ?_
    rintro _ h2 ⟨rfl, k2, fp⟩ -
    refine G.drop 1 ?_
    simp only [List.set]
    have eq : pc b 1300 2 A 0 p = bnd (pc b 1299 3 A (0 + 1) (p + 1)) fun q F => cif (b q = 41) (0, q + 1, F) (1, q, F) := (cif_t c11).trans (cif_f (by decide))
    have pk := pc_ok hb 1299 3 A (0 + 1) (p + 1) (by omega)
    have pk1 := pk.1
    have kA : YK c 0 (wI h MO 50 (nI 0)) h2 := kO.tr k2 (Nat.le_refl c) (Nat.zero_le _)
    have e50 : h2.1 MO 50 = nI 0 := (kA.2.2.1 50 rfl).trans (wI_same _ _ _ _)
    have zA : YZ c h (wI h MO 50 (nI 0)) := (YZ.rf c h).w50
    refine (p_all hok hb 1299).2.2.1 A (0 + 1) (p + 1) c 1 h2 (by decide) (by omega) (by decide) e50 (noO.k k2 (Nat.le_refl 1)) ((tpV_k k2).trans tpO) fp (pc_t hb 1299 3 A (0 + 1) (p + 1) (by omega) (by show 6 * (n - (p + 1)) + 5 ≤ 1299; omega)) (fun e h' k' al nb => ?_) (fun e h' k' e45 => ?_)
    · rw [bnd_t e] at eq
      have tp2 : tpV 1 h' = nI 40 := (tpV_k k').trans ((tpV_k k2).trans tpO)
      have zz : YZ c h h' := zA.tr ((kA.tr (k'.le (Nat.le_refl c) (Nat.zero_le 1)) (Nat.le_refl c) (Nat.le_refl 0)).z) (Nat.le_refl c)
      by_cases e41 : b (pc b 1299 3 A (0 + 1) (p + 1)).2.1 = 41
      · rw [cif_t e41] at eq
        rcases al with ⟨c', w', r', q'⟩ | ⟨z, _⟩
        · have cw := q'.w
          refine c_over hok hb r' q' (g := 40) (by decide) tp2 (by decide) e41 rfl rfl (fun h3 c3 h4 hc3 r3 s3 k3 e3 => ?_)
          show CoP b n p c A h none h3
          unfold CoP
          rw [eq]
          exact ⟨rfl, by rw [e3]; exact (zz.tr (k3.z) (by omega)).w50, fun _ => ⟨c3, by omega, r3, s3⟩, fun z => absurd rfl z⟩
        · omega
      · rw [cif_f e41] at eq
        have fin : ∀ h3, YK c 0 h' h3 → h3.1 MO 45 = bdv 1 (pc b 1299 3 A (0 + 1) (p + 1)).2.1 → CoP b n p c A h none h3 := fun h3 k3 e45 => by
          unfold CoP
          rw [eq]
          exact ⟨rfl, zz.tr k3.z (Nat.le_refl c), fun z => absurd (show (1 : Nat) = 0 from z) (by decide), fun _ => e45⟩
        rcases al with ⟨c', w', r', q'⟩ | ⟨_, e45⟩
        · have cw := q'.w
          exact c_badb hok hb r' nb.1 nb.2 e41 (fun h3 k3 e45 => fin h3 (k3.le (by omega) (Nat.zero_le _)) e45)
        · exact cbadK (c := c) (w := 0) hok (by decide) (by decide) (by omega) e45 fin
    · rw [bnd_f e] at eq
      show CoP b n p c A h none h'
      unfold CoP
      rw [eq]
      exact ⟨rfl, zA.tr ((kA.tr (k'.le (Nat.le_refl c) (Nat.zero_le 1)) (Nat.le_refl c) (Nat.le_refl 0)).z) (Nat.le_refl c), fun z => absurd z e, fun _ => e45⟩
  ·
    refine g_aload_n (pc' := 15) dX12_condition_14 rfl rfl ?_
    refine g_iconstN (n := 1) (pc' := 16) dX12_condition_15 rfl ?_
    refine g_aload_n (pc' := 17) dX12_condition_16 rfl rfl ?_
    refine g_getIv (v := nI (p)) (pc' := 20) (k := 43) dX12_condition_17 rfl rfl ck_13 (by decide) fl_X12_262 rfl (hr.2.1) ?_
    refine g_invV (pc' := 23) (cm_wrong (h := (wI h MO 50 (nI 0))) hok hr.g 1 p) dX12_condition_20 rfl rfl ck_13 rfl ml_X12_284 im_X12_wrongs sl_X12_wrongs in_X12 co_X12_wrongs pd_X12_wrongs rfl (by omega) (by decide) ⟨by decide, by decide⟩ (Nat.le_of_ble_eq_true rfl) ?_
    rintro _ _ ⟨rfl, rfl⟩ -
    refine g_aload_n (pc' := 24) dX12_condition_23 rfl rfl ?_
    refine g_invV (pc' := 27) (cm_bad hok (by rw [wI_same]; exact bdv_ne (by decide) (by decide) (by omega))) dX12_condition_24 rfl rfl ck_13 rfl ml_X12_271 im_X12_isGood sl_X12_isGood in_X12 co_X12_isGood pd_X12_isGood rfl (by omega) (by decide) ⟨by decide, by decide⟩ (Nat.le_of_ble_eq_true rfl) ?_
    rintro _ _ ⟨rfl, rfl⟩ -
    refine g_if_neN (tgt := 31) (pc' := 30) dX12_condition_27 rfl (by decide) (by decide) (fun q => False.elim (by revert q; decide)) (fun _ => ?_)
    refine g_vret dX12_condition_30 rfl (by decide) (by decide) ?_
    show CoP b n p c A h none _
    have eq : pc b 1300 2 A 0 p = (1, p, A) := cif_f c11
    unfold CoP
    rw [eq]
    exact ⟨rfl, ((YZ.rf c h).w50).tr ((YK.rf c 0 (wI h MO 50 (nI 0))).f rfl).z (Nat.le_refl c), fun z => absurd (show (1 : Nat) = 0 from z) (by decide), fun _ => wI_same _ _ _ _⟩
