/-! the reference reads sums -/
theorem RS.b51 {b : Nat → Nat} {n p c w o : Nat} {x : Int32} {h : Hp} (t : RS b n p c w o h) : RS b n p c w o (wI h MO 51 x) := ⟨t.1.k ((YK.rf 0 0 h).f rfl), t.2⟩
theorem QT.k {h h' : Hp} {c0 c w0 w c1 w1 : Nat} {A : Mng} (q : QT h c0 c w0 w A) (k : YK c1 w1 h h') (hc : c ≤ c1) (hw : w ≤ w1) : QT h' c0 c w0 w A := by
  rcases q with ⟨e, q⟩ | ⟨k2, t, F1, F2, e, ht, es, q1, q2, ea⟩
  · exact Or.inl ⟨e, q.k k hc⟩
  · exact Or.inr ⟨k2, t, F1, F2, e, ht, (k.2.2.2.2 w0 (by omega)).trans es, q1.k k (by have := q2.lt; omega), q2.k k hc, ea⟩
theorem QT.w {h : Hp} {c0 c w0 w : Nat} {A : Mng} (q : QT h c0 c w0 w A) : w0 ≤ w ∧ c0 < c := by
  rcases q with ⟨e, q⟩ | ⟨k2, t, F1, F2, e, ht, es, q1, q2, ea⟩
  · exact ⟨by omega, q.lt⟩
  · exact ⟨by omega, Nat.lt_trans q1.lt q2.lt⟩
theorem QE.k {h h' : Hp} {c0 c w0 w c1 w1 : Nat} {A : Mng} (q : QE h c0 c w0 w A) (k : YK c1 w1 h h') (hc : c ≤ c1) (hw : w ≤ w1) : QE h' c0 c w0 w A := by
  rcases q with q | ⟨k2, g, F1, T, hg, es, q1, q2, ea⟩
  · exact Or.inl (q.k k hc hw)
  · exact Or.inr ⟨k2, g, F1, T, hg, (k.2.2.2.2 w0 (by have := q2.w; omega)).trans es, q1.k k (by have := q2.w; omega), q2.k k hc hw, ea⟩
theorem QE.w {h : Hp} {c0 c w0 w : Nat} {A : Mng} (q : QE h c0 c w0 w A) : w0 ≤ w ∧ c0 < c := by
  rcases q with q | ⟨k2, g, F1, T, hg, es, q1, q2, ea⟩
  · exact q.w
  · exact ⟨by have := q2.w; omega, Nat.lt_trans q1.lt q2.w.2⟩
theorem k51 (c w : Nat) (x : Int32) (h : Hp) : YK c w h (wI h MO 51 x) := (YK.rf c w h).f rfl
set_option maxRecDepth 4000 in
theorem v_bad {E : En} (hok : EOK E) {h h0 : Hp} {Q : Option V → Hp → Prop} (hbd : ¬ h.1 MO 45 = 0) (hQ : Q none (wI h MO 51 (nI 0))) : G E m_X12_value 4 0 0 Q h0 29 [some (vR MO), some (vI (nI 1))] [] h 0 0 := by
  have hbad : ¬ (wI h MO 51 (nI 0)).1 MO 45 = 0 := hbd
  refine g_aload_n (pc' := 30) dX12_value_29 rfl rfl ?_
  refine g_iconstN (n := 0) (pc' := 31) dX12_value_30 rfl ?_
  refine g_putI (pc' := 34) (k := 51) dX12_value_31 rfl rfl ck_13 (by decide) fl_X12_330 rfl rfl (by rfl) (by rfl) ?_
  refine g_aload_n (pc' := 35) dX12_value_34 rfl rfl ?_
  refine g_invV (pc' := 38) (cm_bad hok hbad) dX12_value_35 rfl rfl ck_13 rfl ml_X12_271 im_X12_isGood sl_X12_isGood in_X12 co_X12_isGood pd_X12_isGood rfl (by omega) (by decide) ⟨by decide, by decide⟩ (Nat.le_of_ble_eq_true rfl) ?_
  rintro _ _ ⟨rfl, rfl⟩ -
  refine g_if_eqN (tgt := 52) (pc' := 41) dX12_value_38 rfl (by decide) (by decide) (fun _ => ?_) (fun q => False.elim (by revert q; decide))
  refine g_iconstN (n := 0) (pc' := 53) dX12_value_52 rfl ?_
  refine g_istore_n (pc' := 54) dX12_value_53 rfl (by decide) rfl ?_
  try simp only [List.set]
  refine g_goto (tgt := 7) dX12_value_54 (by decide) ?_
  refine g_iload_n (pc' := 8) dX12_value_7 rfl rfl ?_
  refine g_if_eqN (tgt := 57) (pc' := 11) dX12_value_8 rfl (by decide) (by decide) (fun _ => ?_) (fun q => False.elim (by revert q; decide))
  refine g_aload_n (pc' := 58) dX12_value_57 rfl rfl ?_
  refine g_invV (pc' := 61) (cm_bad hok hbad) dX12_value_58 rfl rfl ck_13 rfl ml_X12_271 im_X12_isGood sl_X12_isGood in_X12 co_X12_isGood pd_X12_isGood rfl (by omega) (by decide) ⟨by decide, by decide⟩ (Nat.le_of_ble_eq_true rfl) ?_
  rintro _ _ ⟨rfl, rfl⟩ -
  refine g_if_eqN (tgt := 82) (pc' := 64) dX12_value_61 rfl (by decide) (by decide) (fun _ => ?_) (fun q => False.elim (by revert q; decide))
  refine g_vret dX12_value_82 rfl (by decide) (by decide) ?_
  exact hQ
set_option maxRecDepth 4000 in
theorem v_times {E : En} (hok : EOK E) {h h0 : Hp} {Q : Option V → Hp → Prop} {b : Nat → Nat} {n p c c0 w w0 o g : Nat} {A : Mng} (hb : HB b n) (hr : RS b n p c w o h) (hq : QT h c0 c w0 w A) (hg : g < 256) (htp : tpV w0 h = nI g) (hn : ¬ isTm g) (tm : isTm (b p)) (ho : o ≤ 6) (K : ∀ h' c', c ≤ c' → YK c w0 h h' → SRh h' c0 c' false A → h'.1 (152, 0) w0 = nI (b p) → FA b n (p + 1) c' (w0 + 1) o h' → G E m_X12_value 4 0 0 Q h0 29 [some (vR MO), some (vI (nI 1))] [] h' 0 0) : G E m_X12_value 4 0 0 Q h0 29 [some (vR MO), some (vI (nI 1))] [] h 0 0 := by
  have hb1 := hb.1
  have hi := hr.i
  refine g_aload_n (pc' := 30) dX12_value_29 rfl rfl ?_
  refine g_iconstN (n := 0) (pc' := 31) dX12_value_30 rfl ?_
  refine g_putI (pc' := 34) (k := 51) dX12_value_31 rfl rfl ck_13 (by decide) fl_X12_330 rfl rfl (by rfl) (by rfl) ?_
  refine g_aload_n (pc' := 35) dX12_value_34 rfl rfl ?_
  refine g_invV (pc' := 38) (cm_good (h := wI h MO 51 (nI 0)) hok hr.g) dX12_value_35 rfl rfl ck_13 rfl ml_X12_271 im_X12_isGood sl_X12_isGood in_X12 co_X12_isGood pd_X12_isGood rfl (by omega) (by decide) ⟨by decide, by decide⟩ (Nat.le_of_ble_eq_true rfl) ?_
  rintro _ _ ⟨rfl, rfl⟩ -
  refine g_if_eqN (tgt := 52) (pc' := 41) dX12_value_38 rfl (by decide) (by decide) (fun q => False.elim (by revert q; decide)) (fun _ => ?_)
  refine g_aload_n (pc' := 42) dX12_value_41 rfl rfl ?_
  refine g_invV (pc' := 45) (st_times hok hb hr.b51 (hq.k (k51 c w (nI 0) h) (Nat.le_refl _) (Nat.le_refl _)) hg ((tpV_k (k51 c w0 (nI 0) h)).trans htp) hn tm) dX12_value_42 rfl rfl ck_13 rfl ml_X12_337 im_X12_stays sl_X12_stays in_X12 co_X12_stays pd_X12_stays rfl (by omega) (by decide) ⟨by decide, by decide⟩ (Nat.le_of_ble_eq_true rfl) ?_
  rintro _ h1 ⟨rfl, c1, hc1, hr1, k1, sr1, es, e51⟩ -
  refine g_if_eqN (tgt := 52) (pc' := 48) dX12_value_45 rfl (by decide) (by decide) (fun q => False.elim (by revert q; decide)) (fun _ => ?_)
  refine g_iconstN (n := 1) (pc' := 49) dX12_value_48 rfl ?_
  refine g_goto (tgt := 53) dX12_value_49 (by decide) ?_
  refine g_istore_n (pc' := 54) dX12_value_53 rfl (by decide) rfl ?_
  try simp only [List.set]
  refine g_goto (tgt := 7) dX12_value_54 (by decide) ?_
  refine g_iload_n (pc' := 8) dX12_value_7 rfl rfl ?_
  refine g_if_eqN (tgt := 57) (pc' := 11) dX12_value_8 rfl (by decide) (by decide) (fun q => False.elim (by revert q; decide)) (fun _ => ?_)
  refine g_aload_n (pc' := 12) dX12_value_11 rfl rfl ?_
  refine g_invV (pc' := 15) (cm_good hok hr1.g) dX12_value_12 rfl rfl ck_13 rfl ml_X12_271 im_X12_isGood sl_X12_isGood in_X12 co_X12_isGood pd_X12_isGood rfl (by omega) (by decide) ⟨by decide, by decide⟩ (Nat.le_of_ble_eq_true rfl) ?_
  rintro _ _ ⟨rfl, rfl⟩ -
  refine g_if_eqN (tgt := 57) (pc' := 18) dX12_value_15 rfl (by decide) (by decide) (fun q => False.elim (by revert q; decide)) (fun _ => ?_)
  refine g_aload_n (pc' := 19) dX12_value_18 rfl rfl ?_
  refine g_getIv (v := nI (0)) (pc' := 22) (k := 51) dX12_value_19 rfl rfl ck_13 (by decide) fl_X12_330 rfl (e51) ?_
  refine g_if_neN (tgt := 29) (pc' := 25) dX12_value_22 rfl (by decide) (by decide) (fun q => False.elim (by revert q; decide)) (fun _ => ?_)
  refine g_aload_n (pc' := 26) dX12_value_25 rfl rfl ?_
  refine g_invV (pc' := 29) (cm_factor hok hb hr1 ho) dX12_value_26 rfl rfl ck_13 rfl ml_X12_334 im_X12_factor sl_X12_factor in_X12 co_X12_factor pd_X12_factor rfl (by omega) (by decide) ⟨by decide, by decide⟩ (Nat.le_of_ble_eq_true rfl) ?_
  rintro _ h2 ⟨rfl, k2, fa⟩ -
  exact K h2 c1 hc1 (((k51 c w0 (nI 0) h).tr k1 (Nat.le_refl _) (Nat.le_refl _)).tr k2 hc1 (Nat.le_succ w0)) (sr1.k k2 (Nat.le_refl c1)) ((k2.2.2.2.2 w0 (Nat.lt_succ_self w0)).trans es) fa
set_option maxRecDepth 4000 in
theorem v_plus {E : En} (hok : EOK E) {h h0 : Hp} {Q : Option V → Hp → Prop} {b : Nat → Nat} {n p c c0 w w0 o g : Nat} {A : Mng} (hb : HB b n) (hr : RS b n p c w o h) (hq : QE h c0 c w0 w A) (hg : g < 256) (htp : tpV w0 h = nI g) (hn : ¬ isTm g ∧ ¬ isPl g) (pl : isPl (b p)) (ho : o ≤ 6) (K : ∀ h' c', c ≤ c' → YK c w0 h h' → SRh h' c0 c' false A → h'.1 (152, 0) w0 = nI (b p) → FA b n (p + 1) c' (w0 + 1) o h' → G E m_X12_value 4 0 0 Q h0 29 [some (vR MO), some (vI (nI 1))] [] h' 0 0) : G E m_X12_value 4 0 0 Q h0 29 [some (vR MO), some (vI (nI 1))] [] h 0 0 := by
  have hb1 := hb.1
  have hi := hr.i
  refine g_aload_n (pc' := 30) dX12_value_29 rfl rfl ?_
  refine g_iconstN (n := 0) (pc' := 31) dX12_value_30 rfl ?_
  refine g_putI (pc' := 34) (k := 51) dX12_value_31 rfl rfl ck_13 (by decide) fl_X12_330 rfl rfl (by rfl) (by rfl) ?_
  refine g_aload_n (pc' := 35) dX12_value_34 rfl rfl ?_
  refine g_invV (pc' := 38) (cm_good (h := wI h MO 51 (nI 0)) hok hr.g) dX12_value_35 rfl rfl ck_13 rfl ml_X12_271 im_X12_isGood sl_X12_isGood in_X12 co_X12_isGood pd_X12_isGood rfl (by omega) (by decide) ⟨by decide, by decide⟩ (Nat.le_of_ble_eq_true rfl) ?_
  rintro _ _ ⟨rfl, rfl⟩ -
  refine g_if_eqN (tgt := 52) (pc' := 41) dX12_value_38 rfl (by decide) (by decide) (fun q => False.elim (by revert q; decide)) (fun _ => ?_)
  refine g_aload_n (pc' := 42) dX12_value_41 rfl rfl ?_
  refine g_invV (pc' := 45) (st_plus hok hb hr.b51 (hq.k (k51 c w (nI 0) h) (Nat.le_refl _) (Nat.le_refl _)) hg ((tpV_k (k51 c w0 (nI 0) h)).trans htp) hn pl) dX12_value_42 rfl rfl ck_13 rfl ml_X12_337 im_X12_stays sl_X12_stays in_X12 co_X12_stays pd_X12_stays rfl (by omega) (by decide) ⟨by decide, by decide⟩ (Nat.le_of_ble_eq_true rfl) ?_
  rintro _ h1 ⟨rfl, c1, hc1, hr1, k1, sr1, es, e51⟩ -
  refine g_if_eqN (tgt := 52) (pc' := 48) dX12_value_45 rfl (by decide) (by decide) (fun q => False.elim (by revert q; decide)) (fun _ => ?_)
  refine g_iconstN (n := 1) (pc' := 49) dX12_value_48 rfl ?_
  refine g_goto (tgt := 53) dX12_value_49 (by decide) ?_
  refine g_istore_n (pc' := 54) dX12_value_53 rfl (by decide) rfl ?_
  try simp only [List.set]
  refine g_goto (tgt := 7) dX12_value_54 (by decide) ?_
  refine g_iload_n (pc' := 8) dX12_value_7 rfl rfl ?_
  refine g_if_eqN (tgt := 57) (pc' := 11) dX12_value_8 rfl (by decide) (by decide) (fun q => False.elim (by revert q; decide)) (fun _ => ?_)
  refine g_aload_n (pc' := 12) dX12_value_11 rfl rfl ?_
  refine g_invV (pc' := 15) (cm_good hok hr1.g) dX12_value_12 rfl rfl ck_13 rfl ml_X12_271 im_X12_isGood sl_X12_isGood in_X12 co_X12_isGood pd_X12_isGood rfl (by omega) (by decide) ⟨by decide, by decide⟩ (Nat.le_of_ble_eq_true rfl) ?_
  rintro _ _ ⟨rfl, rfl⟩ -
  refine g_if_eqN (tgt := 57) (pc' := 18) dX12_value_15 rfl (by decide) (by decide) (fun q => False.elim (by revert q; decide)) (fun _ => ?_)
  refine g_aload_n (pc' := 19) dX12_value_18 rfl rfl ?_
  refine g_getIv (v := nI (0)) (pc' := 22) (k := 51) dX12_value_19 rfl rfl ck_13 (by decide) fl_X12_330 rfl (e51) ?_
  refine g_if_neN (tgt := 29) (pc' := 25) dX12_value_22 rfl (by decide) (by decide) (fun q => False.elim (by revert q; decide)) (fun _ => ?_)
  refine g_aload_n (pc' := 26) dX12_value_25 rfl rfl ?_
  refine g_invV (pc' := 29) (cm_factor hok hb hr1 ho) dX12_value_26 rfl rfl ck_13 rfl ml_X12_334 im_X12_factor sl_X12_factor in_X12 co_X12_factor pd_X12_factor rfl (by omega) (by decide) ⟨by decide, by decide⟩ (Nat.le_of_ble_eq_true rfl) ?_
  rintro _ h2 ⟨rfl, k2, fa⟩ -
  exact K h2 c1 hc1 (((k51 c w0 (nI 0) h).tr k1 (Nat.le_refl _) (Nat.le_refl _)).tr k2 hc1 (Nat.le_succ w0)) (sr1.k k2 (Nat.le_refl c1)) ((k2.2.2.2.2 w0 (Nat.lt_succ_self w0)).trans es) fa
set_option maxRecDepth 4000 in
theorem v_close {E : En} (hok : EOK E) {h h0 : Hp} {Q : Option V → Hp → Prop} {b : Nat → Nat} {n p c c0 w w0 o g : Nat} {A : Mng} (hb : HB b n) (hr : RS b n p c w o h) (hq : QE h c0 c w0 w A) (hg : g < 256) (htp : tpV w0 h = nI g) (hn : ¬ isTm g ∧ ¬ isPl g) (nb : ¬ isTm (b p) ∧ ¬ isPl (b p)) (e93 : b p = 93) (e91 : g = 91) {w1 o1 : Nat} (ew : w0 = w1 + 1) (eo : o = o1 + 1) (K : ∀ h' c', c ≤ c' → YK c w1 h h' → RS b n (p + 1) c' w1 o1 h' → SRh h' c0 c' false A → G E m_X12_value 4 0 0 Q h0 29 [some (vR MO), some (vI (nI 1))] [] h' 0 0) : G E m_X12_value 4 0 0 Q h0 29 [some (vR MO), some (vI (nI 1))] [] h 0 0 := by
  have hb1 := hb.1
  have hi := hr.i
  refine g_aload_n (pc' := 30) dX12_value_29 rfl rfl ?_
  refine g_iconstN (n := 0) (pc' := 31) dX12_value_30 rfl ?_
  refine g_putI (pc' := 34) (k := 51) dX12_value_31 rfl rfl ck_13 (by decide) fl_X12_330 rfl rfl (by rfl) (by rfl) ?_
  refine g_aload_n (pc' := 35) dX12_value_34 rfl rfl ?_
  refine g_invV (pc' := 38) (cm_good (h := wI h MO 51 (nI 0)) hok hr.g) dX12_value_35 rfl rfl ck_13 rfl ml_X12_271 im_X12_isGood sl_X12_isGood in_X12 co_X12_isGood pd_X12_isGood rfl (by omega) (by decide) ⟨by decide, by decide⟩ (Nat.le_of_ble_eq_true rfl) ?_
  rintro _ _ ⟨rfl, rfl⟩ -
  refine g_if_eqN (tgt := 52) (pc' := 41) dX12_value_38 rfl (by decide) (by decide) (fun q => False.elim (by revert q; decide)) (fun _ => ?_)
  refine g_aload_n (pc' := 42) dX12_value_41 rfl rfl ?_
  refine g_invV (pc' := 45) (st_close hok hb hr.b51 (hq.k (k51 c w (nI 0) h) (Nat.le_refl _) (Nat.le_refl _)) hg ((tpV_k (k51 c w0 (nI 0) h)).trans htp) hn nb e93 e91 ew eo) dX12_value_42 rfl rfl ck_13 rfl ml_X12_337 im_X12_stays sl_X12_stays in_X12 co_X12_stays pd_X12_stays rfl (by omega) (by decide) ⟨by decide, by decide⟩ (Nat.le_of_ble_eq_true rfl) ?_
  rintro _ h1 ⟨rfl, c1, hc1, hr1, k1, sr1, e51⟩ -
  refine g_if_eqN (tgt := 52) (pc' := 48) dX12_value_45 rfl (by decide) (by decide) (fun q => False.elim (by revert q; decide)) (fun _ => ?_)
  refine g_iconstN (n := 1) (pc' := 49) dX12_value_48 rfl ?_
  refine g_goto (tgt := 53) dX12_value_49 (by decide) ?_
  refine g_istore_n (pc' := 54) dX12_value_53 rfl (by decide) rfl ?_
  try simp only [List.set]
  refine g_goto (tgt := 7) dX12_value_54 (by decide) ?_
  refine g_iload_n (pc' := 8) dX12_value_7 rfl rfl ?_
  refine g_if_eqN (tgt := 57) (pc' := 11) dX12_value_8 rfl (by decide) (by decide) (fun q => False.elim (by revert q; decide)) (fun _ => ?_)
  refine g_aload_n (pc' := 12) dX12_value_11 rfl rfl ?_
  refine g_invV (pc' := 15) (cm_good hok hr1.g) dX12_value_12 rfl rfl ck_13 rfl ml_X12_271 im_X12_isGood sl_X12_isGood in_X12 co_X12_isGood pd_X12_isGood rfl (by omega) (by decide) ⟨by decide, by decide⟩ (Nat.le_of_ble_eq_true rfl) ?_
  rintro _ _ ⟨rfl, rfl⟩ -
  refine g_if_eqN (tgt := 57) (pc' := 18) dX12_value_15 rfl (by decide) (by decide) (fun q => False.elim (by revert q; decide)) (fun _ => ?_)
  refine g_aload_n (pc' := 19) dX12_value_18 rfl rfl ?_
  refine g_getIv (v := nI (1)) (pc' := 22) (k := 51) dX12_value_19 rfl rfl ck_13 (by decide) fl_X12_330 rfl (e51) ?_
  refine g_if_neN (tgt := 29) (pc' := 25) dX12_value_22 rfl (by decide) (by decide) (fun _ => ?_) (fun q => False.elim (by revert q; decide))
  exact K h1 c1 hc1 ((k51 c w1 (nI 0) h).tr k1 (Nat.le_refl _) (Nat.le_refl _)) hr1 sr1
set_option maxRecDepth 4000 in
theorem v_end {E : En} (hok : EOK E) {h h0 : Hp} {Q : Option V → Hp → Prop} {b : Nat → Nat} {n p c c0 w w0 o g : Nat} {A : Mng} (hb : HB b n) (hr : RS b n p c w o h) (hq : QE h c0 c w0 w A) (hg : g < 256) (htp : tpV w0 h = nI g) (hn : ¬ isTm g ∧ ¬ isPl g) (nb : ¬ isTm (b p) ∧ ¬ isPl (b p)) (n93 : ¬ b p = 93) (n91 : ¬ g = 91) (K : ∀ h' c', c ≤ c' → YK c w0 h h' → RS b n p c' w0 o h' → SRh h' c0 c' false A → Q none h') : G E m_X12_value 4 0 0 Q h0 29 [some (vR MO), some (vI (nI 1))] [] h 0 0 := by
  have hb1 := hb.1
  have hi := hr.i
  refine g_aload_n (pc' := 30) dX12_value_29 rfl rfl ?_
  refine g_iconstN (n := 0) (pc' := 31) dX12_value_30 rfl ?_
  refine g_putI (pc' := 34) (k := 51) dX12_value_31 rfl rfl ck_13 (by decide) fl_X12_330 rfl rfl (by rfl) (by rfl) ?_
  refine g_aload_n (pc' := 35) dX12_value_34 rfl rfl ?_
  refine g_invV (pc' := 38) (cm_good (h := wI h MO 51 (nI 0)) hok hr.g) dX12_value_35 rfl rfl ck_13 rfl ml_X12_271 im_X12_isGood sl_X12_isGood in_X12 co_X12_isGood pd_X12_isGood rfl (by omega) (by decide) ⟨by decide, by decide⟩ (Nat.le_of_ble_eq_true rfl) ?_
  rintro _ _ ⟨rfl, rfl⟩ -
  refine g_if_eqN (tgt := 52) (pc' := 41) dX12_value_38 rfl (by decide) (by decide) (fun q => False.elim (by revert q; decide)) (fun _ => ?_)
  refine g_aload_n (pc' := 42) dX12_value_41 rfl rfl ?_
  refine g_invV (pc' := 45) (st_end hok hb hr.b51 (hq.k (k51 c w (nI 0) h) (Nat.le_refl _) (Nat.le_refl _)) hg ((tpV_k (k51 c w0 (nI 0) h)).trans htp) hn nb n93) dX12_value_42 rfl rfl ck_13 rfl ml_X12_337 im_X12_stays sl_X12_stays in_X12 co_X12_stays pd_X12_stays rfl (by omega) (by decide) ⟨by decide, by decide⟩ (Nat.le_of_ble_eq_true rfl) ?_
  rintro _ h1 ⟨rfl, c1, hc1, hr1, k1, sr1⟩ -
  have hi1 := hr1.i
  refine g_if_eqN (tgt := 52) (pc' := 48) dX12_value_45 rfl (by decide) (by decide) (fun _ => ?_) (fun q => False.elim (by revert q; decide))
  refine g_iconstN (n := 0) (pc' := 53) dX12_value_52 rfl ?_
  refine g_istore_n (pc' := 54) dX12_value_53 rfl (by decide) rfl ?_
  try simp only [List.set]
  refine g_goto (tgt := 7) dX12_value_54 (by decide) ?_
  refine g_iload_n (pc' := 8) dX12_value_7 rfl rfl ?_
  refine g_if_eqN (tgt := 57) (pc' := 11) dX12_value_8 rfl (by decide) (by decide) (fun _ => ?_) (fun q => False.elim (by revert q; decide))
  refine g_aload_n (pc' := 58) dX12_value_57 rfl rfl ?_
  refine g_invV (pc' := 61) (cm_good hok hr1.g) dX12_value_58 rfl rfl ck_13 rfl ml_X12_271 im_X12_isGood sl_X12_isGood in_X12 co_X12_isGood pd_X12_isGood rfl (by omega) (by decide) ⟨by decide, by decide⟩ (Nat.le_of_ble_eq_true rfl) ?_
  rintro _ _ ⟨rfl, rfl⟩ -
  refine g_if_eqN (tgt := 82) (pc' := 64) dX12_value_61 rfl (by decide) (by decide) (fun q => False.elim (by revert q; decide)) (fun _ => ?_)
  refine g_aload_n (pc' := 65) dX12_value_64 rfl rfl ?_
  refine g_invV (pc' := 68) (cm_top hok hr1.s hr1.2.2.2.1 (by omega) ((tpV_k k1).trans ((tpV_k (k51 c w0 (nI 0) h)).trans htp))) dX12_value_65 rfl rfl ck_13 rfl ml_X12_305 im_X12_top sl_X12_top in_X12 co_X12_top pd_X12_top rfl (by omega) (by decide) ⟨by decide, by decide⟩ (Nat.le_of_ble_eq_true rfl) ?_
  rintro _ _ ⟨rfl, rfl⟩ -
  refine g_bipushN (n := 91) (pc' := 70) dX12_value_68 rfl (by decide) ?_
  refine g_icmp_neN (tgt := 82) (pc' := 73) dX12_value_70 rfl (by decide) (by omega) (by omega) (fun c70 => ?_) (fun c70 => ?_)
  ·
    refine g_vret dX12_value_82 rfl (by decide) (by decide) ?_
    exact K h1 c1 hc1 ((k51 c w0 (nI 0) h).tr k1 (Nat.le_refl _) (Nat.le_refl _)) hr1 sr1
  · exact absurd c70 n91
set_option maxRecDepth 4000 in
theorem v_opn {E : En} (hok : EOK E) {h h0 : Hp} {Q : Option V → Hp → Prop} {b : Nat → Nat} {n p c c0 w w0 o g : Nat} {A : Mng} (hb : HB b n) (hr : RS b n p c w o h) (hq : QE h c0 c w0 w A) (hg : g < 256) (htp : tpV w0 h = nI g) (hn : ¬ isTm g ∧ ¬ isPl g) (nb : ¬ isTm (b p) ∧ ¬ isPl (b p)) (n93 : ¬ b p = 93) (e91 : g = 91) (K : ∀ h', YK c w0 h h' → h'.1 MO 45 = bdv 1 p → Q none h') : G E m_X12_value 4 0 0 Q h0 29 [some (vR MO), some (vI (nI 1))] [] h 0 0 := by
  have hb1 := hb.1
  have hi := hr.i
  refine g_aload_n (pc' := 30) dX12_value_29 rfl rfl ?_
  refine g_iconstN (n := 0) (pc' := 31) dX12_value_30 rfl ?_
  refine g_putI (pc' := 34) (k := 51) dX12_value_31 rfl rfl ck_13 (by decide) fl_X12_330 rfl rfl (by rfl) (by rfl) ?_
  refine g_aload_n (pc' := 35) dX12_value_34 rfl rfl ?_
  refine g_invV (pc' := 38) (cm_good (h := wI h MO 51 (nI 0)) hok hr.g) dX12_value_35 rfl rfl ck_13 rfl ml_X12_271 im_X12_isGood sl_X12_isGood in_X12 co_X12_isGood pd_X12_isGood rfl (by omega) (by decide) ⟨by decide, by decide⟩ (Nat.le_of_ble_eq_true rfl) ?_
  rintro _ _ ⟨rfl, rfl⟩ -
  refine g_if_eqN (tgt := 52) (pc' := 41) dX12_value_38 rfl (by decide) (by decide) (fun q => False.elim (by revert q; decide)) (fun _ => ?_)
  refine g_aload_n (pc' := 42) dX12_value_41 rfl rfl ?_
  refine g_invV (pc' := 45) (st_end hok hb hr.b51 (hq.k (k51 c w (nI 0) h) (Nat.le_refl _) (Nat.le_refl _)) hg ((tpV_k (k51 c w0 (nI 0) h)).trans htp) hn nb n93) dX12_value_42 rfl rfl ck_13 rfl ml_X12_337 im_X12_stays sl_X12_stays in_X12 co_X12_stays pd_X12_stays rfl (by omega) (by decide) ⟨by decide, by decide⟩ (Nat.le_of_ble_eq_true rfl) ?_
  rintro _ h1 ⟨rfl, c1, hc1, hr1, k1, sr1⟩ -
  have hi1 := hr1.i
  refine g_if_eqN (tgt := 52) (pc' := 48) dX12_value_45 rfl (by decide) (by decide) (fun _ => ?_) (fun q => False.elim (by revert q; decide))
  refine g_iconstN (n := 0) (pc' := 53) dX12_value_52 rfl ?_
  refine g_istore_n (pc' := 54) dX12_value_53 rfl (by decide) rfl ?_
  try simp only [List.set]
  refine g_goto (tgt := 7) dX12_value_54 (by decide) ?_
  refine g_iload_n (pc' := 8) dX12_value_7 rfl rfl ?_
  refine g_if_eqN (tgt := 57) (pc' := 11) dX12_value_8 rfl (by decide) (by decide) (fun _ => ?_) (fun q => False.elim (by revert q; decide))
  refine g_aload_n (pc' := 58) dX12_value_57 rfl rfl ?_
  refine g_invV (pc' := 61) (cm_good hok hr1.g) dX12_value_58 rfl rfl ck_13 rfl ml_X12_271 im_X12_isGood sl_X12_isGood in_X12 co_X12_isGood pd_X12_isGood rfl (by omega) (by decide) ⟨by decide, by decide⟩ (Nat.le_of_ble_eq_true rfl) ?_
  rintro _ _ ⟨rfl, rfl⟩ -
  refine g_if_eqN (tgt := 82) (pc' := 64) dX12_value_61 rfl (by decide) (by decide) (fun q => False.elim (by revert q; decide)) (fun _ => ?_)
  refine g_aload_n (pc' := 65) dX12_value_64 rfl rfl ?_
  refine g_invV (pc' := 68) (cm_top hok hr1.s hr1.2.2.2.1 (by omega) ((tpV_k k1).trans ((tpV_k (k51 c w0 (nI 0) h)).trans htp))) dX12_value_65 rfl rfl ck_13 rfl ml_X12_305 im_X12_top sl_X12_top in_X12 co_X12_top pd_X12_top rfl (by omega) (by decide) ⟨by decide, by decide⟩ (Nat.le_of_ble_eq_true rfl) ?_
  rintro _ _ ⟨rfl, rfl⟩ -
  refine g_bipushN (n := 91) (pc' := 70) dX12_value_68 rfl (by decide) ?_
  refine g_icmp_neN (tgt := 82) (pc' := 73) dX12_value_70 rfl (by decide) (by omega) (by omega) (fun c70 => ?_) (fun c70 => ?_)
  · exact absurd e91 c70
  ·
    refine g_aload_n (pc' := 74) dX12_value_73 rfl rfl ?_
    refine g_iconstN (n := 1) (pc' := 75) dX12_value_74 rfl ?_
    refine g_aload_n (pc' := 76) dX12_value_75 rfl rfl ?_
    refine g_getIv (v := nI (p)) (pc' := 79) (k := 43) dX12_value_76 rfl rfl ck_13 (by decide) fl_X12_262 rfl (hr1.2.1) ?_
    refine g_invV (pc' := 82) (cm_wrong hok hr1.g 1 p) dX12_value_79 rfl rfl ck_13 rfl ml_X12_284 im_X12_wrongs sl_X12_wrongs in_X12 co_X12_wrongs pd_X12_wrongs rfl (by omega) (by decide) ⟨by decide, by decide⟩ (Nat.le_of_ble_eq_true rfl) ?_
    rintro _ _ ⟨rfl, rfl⟩ -
    refine g_vret dX12_value_82 rfl (by decide) (by decide) ?_
    exact K _ (((k51 c w0 (nI 0) h).tr k1 (Nat.le_refl _) (Nat.le_refl _)).f rfl) (wI_same _ _ _ _)
set_option maxRecDepth 4000 in
theorem v_badc {E : En} (hok : EOK E) {h h0 : Hp} {Q : Option V → Hp → Prop} {b : Nat → Nat} {n p c c0 w w0 o g : Nat} {A : Mng} (hb : HB b n) (hr : RS b n p c w o h) (hq : QE h c0 c w0 w A) (hg : g < 256) (htp : tpV w0 h = nI g) (hn : ¬ isTm g ∧ ¬ isPl g) (nb : ¬ isTm (b p) ∧ ¬ isPl (b p)) (e93 : b p = 93) (n91 : ¬ g = 91) (K : ∀ h', YK c w0 h h' → h'.1 MO 45 = bdv 1 p → Q none h') : G E m_X12_value 4 0 0 Q h0 29 [some (vR MO), some (vI (nI 1))] [] h 0 0 := by
  have hb1 := hb.1
  have hi := hr.i
  refine g_aload_n (pc' := 30) dX12_value_29 rfl rfl ?_
  refine g_iconstN (n := 0) (pc' := 31) dX12_value_30 rfl ?_
  refine g_putI (pc' := 34) (k := 51) dX12_value_31 rfl rfl ck_13 (by decide) fl_X12_330 rfl rfl (by rfl) (by rfl) ?_
  refine g_aload_n (pc' := 35) dX12_value_34 rfl rfl ?_
  refine g_invV (pc' := 38) (cm_good (h := wI h MO 51 (nI 0)) hok hr.g) dX12_value_35 rfl rfl ck_13 rfl ml_X12_271 im_X12_isGood sl_X12_isGood in_X12 co_X12_isGood pd_X12_isGood rfl (by omega) (by decide) ⟨by decide, by decide⟩ (Nat.le_of_ble_eq_true rfl) ?_
  rintro _ _ ⟨rfl, rfl⟩ -
  refine g_if_eqN (tgt := 52) (pc' := 41) dX12_value_38 rfl (by decide) (by decide) (fun q => False.elim (by revert q; decide)) (fun _ => ?_)
  refine g_aload_n (pc' := 42) dX12_value_41 rfl rfl ?_
  refine g_invV (pc' := 45) (st_bad hok hb hr.b51 (hq.k (k51 c w (nI 0) h) (Nat.le_refl _) (Nat.le_refl _)) hg ((tpV_k (k51 c w0 (nI 0) h)).trans htp) hn nb e93 n91) dX12_value_42 rfl rfl ck_13 rfl ml_X12_337 im_X12_stays sl_X12_stays in_X12 co_X12_stays pd_X12_stays rfl (by omega) (by decide) ⟨by decide, by decide⟩ (Nat.le_of_ble_eq_true rfl) ?_
  rintro _ h1 ⟨rfl, k1, e45⟩ -
  have hbad : ¬ h1.1 MO 45 = 0 := by
    rw [e45]
    exact bdv_ne (by decide) (by decide) (by omega)
  refine g_if_eqN (tgt := 52) (pc' := 48) dX12_value_45 rfl (by decide) (by decide) (fun _ => ?_) (fun q => False.elim (by revert q; decide))
  refine g_iconstN (n := 0) (pc' := 53) dX12_value_52 rfl ?_
  refine g_istore_n (pc' := 54) dX12_value_53 rfl (by decide) rfl ?_
  try simp only [List.set]
  refine g_goto (tgt := 7) dX12_value_54 (by decide) ?_
  refine g_iload_n (pc' := 8) dX12_value_7 rfl rfl ?_
  refine g_if_eqN (tgt := 57) (pc' := 11) dX12_value_8 rfl (by decide) (by decide) (fun _ => ?_) (fun q => False.elim (by revert q; decide))
  refine g_aload_n (pc' := 58) dX12_value_57 rfl rfl ?_
  refine g_invV (pc' := 61) (cm_bad hok hbad) dX12_value_58 rfl rfl ck_13 rfl ml_X12_271 im_X12_isGood sl_X12_isGood in_X12 co_X12_isGood pd_X12_isGood rfl (by omega) (by decide) ⟨by decide, by decide⟩ (Nat.le_of_ble_eq_true rfl) ?_
  rintro _ _ ⟨rfl, rfl⟩ -
  refine g_if_eqN (tgt := 82) (pc' := 64) dX12_value_61 rfl (by decide) (by decide) (fun _ => ?_) (fun q => False.elim (by revert q; decide))
  refine g_vret dX12_value_82 rfl (by decide) (by decide) ?_
  exact K _ ((k51 c w0 (nI 0) h).tr k1 (Nat.le_refl _) (Nat.le_refl _)) e45
def V0 (E : En) (Q : Option V → Hp → Prop) (h0 : Hp) (b : Nat → Nat) (n u : Nat) : Prop := ∀ (A : Mng) (o p c w : Nat) (h : Hp), o ≤ 6 → p ≤ n → FA b n p c w o h → (px b u 0 A o p).1 ≠ 9 → ((px b u 0 A o p).1 = 0 → ∀ h' c', c < c' → YK c w h h' → RS b n (px b u 0 A o p).2.1 c' w o h' → SRh h' c c' false (px b u 0 A o p).2.2 → G E m_X12_value 4 0 0 Q h0 29 [some (vR MO), some (vI (nI 1))] [] h' 0 0) → (¬ (px b u 0 A o p).1 = 0 → ∀ h', YK c w h h' → h'.1 MO 45 = bdv (px b u 0 A o p).1 (px b u 0 A o p).2.1 → Q none h') → G E m_X12_value 4 0 0 Q h0 29 [some (vR MO), some (vI (nI 1))] [] h 0 0
def V1 (E : En) (Q : Option V → Hp → Prop) (h0 : Hp) (b : Nat → Nat) (n u : Nat) : Prop := ∀ (A : Mng) (o p c w g : Nat) (h : Hp), o ≤ 6 → p ≤ n → g < 256 → tpV w h = nI g → (¬ isTm g) → FA b n p c w o h → (px b u 1 A o p).1 ≠ 9 → ((px b u 1 A o p).1 = 0 → ∀ h' c' w', YK c w h h' → RS b n (px b u 1 A o p).2.1 c' w' o h' → QT h' c c' w w' (px b u 1 A o p).2.2 → (¬ isTm (b (px b u 1 A o p).2.1)) → G E m_X12_value 4 0 0 Q h0 29 [some (vR MO), some (vI (nI 1))] [] h' 0 0) → (¬ (px b u 1 A o p).1 = 0 → ∀ h', YK c w h h' → h'.1 MO 45 = bdv (px b u 1 A o p).1 (px b u 1 A o p).2.1 → Q none h') → G E m_X12_value 4 0 0 Q h0 29 [some (vR MO), some (vI (nI 1))] [] h 0 0
def V2 (E : En) (Q : Option V → Hp → Prop) (h0 : Hp) (b : Nat → Nat) (n u : Nat) : Prop := ∀ (A : Mng) (o p c0 c w0 w g : Nat) (h : Hp), o ≤ 6 → g < 256 → tpV w0 h = nI g → (¬ isTm g) → RS b n p c w o h → QT h c0 c w0 w A → (px b u 2 A o p).1 ≠ 9 → ((px b u 2 A o p).1 = 0 → ∀ h' c' w', YK c0 w0 h h' → RS b n (px b u 2 A o p).2.1 c' w' o h' → QT h' c0 c' w0 w' (px b u 2 A o p).2.2 → (¬ isTm (b (px b u 2 A o p).2.1)) → G E m_X12_value 4 0 0 Q h0 29 [some (vR MO), some (vI (nI 1))] [] h' 0 0) → (¬ (px b u 2 A o p).1 = 0 → ∀ h', YK c0 w0 h h' → h'.1 MO 45 = bdv (px b u 2 A o p).1 (px b u 2 A o p).2.1 → Q none h') → G E m_X12_value 4 0 0 Q h0 29 [some (vR MO), some (vI (nI 1))] [] h 0 0
def V3 (E : En) (Q : Option V → Hp → Prop) (h0 : Hp) (b : Nat → Nat) (n u : Nat) : Prop := ∀ (A : Mng) (o p c w g : Nat) (h : Hp), o ≤ 6 → p ≤ n → g < 256 → tpV w h = nI g → (¬ isTm g ∧ ¬ isPl g) → FA b n p c w o h → (px b u 3 A o p).1 ≠ 9 → ((px b u 3 A o p).1 = 0 → ∀ h' c' w', YK c w h h' → RS b n (px b u 3 A o p).2.1 c' w' o h' → QE h' c c' w w' (px b u 3 A o p).2.2 → (¬ isTm (b (px b u 3 A o p).2.1) ∧ ¬ isPl (b (px b u 3 A o p).2.1)) → G E m_X12_value 4 0 0 Q h0 29 [some (vR MO), some (vI (nI 1))] [] h' 0 0) → (¬ (px b u 3 A o p).1 = 0 → ∀ h', YK c w h h' → h'.1 MO 45 = bdv (px b u 3 A o p).1 (px b u 3 A o p).2.1 → Q none h') → G E m_X12_value 4 0 0 Q h0 29 [some (vR MO), some (vI (nI 1))] [] h 0 0
def V4 (E : En) (Q : Option V → Hp → Prop) (h0 : Hp) (b : Nat → Nat) (n u : Nat) : Prop := ∀ (A : Mng) (o p c0 c w0 w g : Nat) (h : Hp), o ≤ 6 → g < 256 → tpV w0 h = nI g → (¬ isTm g ∧ ¬ isPl g) → RS b n p c w o h → QE h c0 c w0 w A → ¬ isTm (b p) → (px b u 4 A o p).1 ≠ 9 → ((px b u 4 A o p).1 = 0 → ∀ h' c' w', YK c0 w0 h h' → RS b n (px b u 4 A o p).2.1 c' w' o h' → QE h' c0 c' w0 w' (px b u 4 A o p).2.2 → (¬ isTm (b (px b u 4 A o p).2.1) ∧ ¬ isPl (b (px b u 4 A o p).2.1)) → G E m_X12_value 4 0 0 Q h0 29 [some (vR MO), some (vI (nI 1))] [] h' 0 0) → (¬ (px b u 4 A o p).1 = 0 → ∀ h', YK c0 w0 h h' → h'.1 MO 45 = bdv (px b u 4 A o p).1 (px b u 4 A o p).2.1 → Q none h') → G E m_X12_value 4 0 0 Q h0 29 [some (vR MO), some (vI (nI 1))] [] h 0 0
theorem vbadK {E : En} (hok : EOK E) {Q : Option V → Hp → Prop} {h0 h : Hp} {c w f q : Nat} (hf0 : 0 < f) (hf : f ≤ 9) (hq : q ≤ 300) (e : h.1 MO 45 = bdv f q) (K : ∀ h', YK c w h h' → h'.1 MO 45 = bdv f q → Q none h') : G E m_X12_value 4 0 0 Q h0 29 [some (vR MO), some (vI (nI 1))] [] h 0 0 :=
  v_bad hok (by rw [e]; exact bdv_ne hf0 hf hq) (K _ (k51 c w (nI 0) h) e)
theorem px_at {b : Nat → Nat} {u o p : Nat} {A : Mng} (h : ¬ b p = 91) : px b (u + 1) 0 A o p = atR b p A := by
  rw [px_0, cif_f h]
  rfl
theorem v0_step {E : En} (hok : EOK E) {Q : Option V → Hp → Prop} {h0 : Hp} {b : Nat → Nat} {n u : Nat} (hb : HB b n) (h3 : V3 E Q h0 b n u) : V0 E Q h0 b n (u + 1) := by
  intro A o p c w h ho hp fa hne hok1 hbad
  have hb1 := hb.1
  have pk := px_ok hb (u + 1) 0 A o p hp
  have pk1 := pk.1
  have pk2 := pk.2.1
  by_cases e91 : b p = 91
  · have nd : ¬ dgt (b p) := by unfold dgt; omega
    have nl : ¬ isLt (b p) := by unfold isLt; omega
    by_cases ho6 : 6 ≤ o
    · have eq : px b (u + 1) 0 A o p = (5, p, A) := by rw [px_0, cif_f nd, cif_f nl, cif_t e91, cif_t ho6]
      rw [eq] at hbad
      exact vbadK (f := 5) (q := p) hok (by decide) (by decide) (by omega) (fa.full e91 ho6) (hbad (by show ¬ (5 : Nat) = 0; decide))
    · have eq : px b (u + 1) 0 A o p = bnd (px b u 3 A (o + 1) (p + 1)) fun q F => cif (b q = 93) (0, q + 1, F) (1, q, F) := by rw [px_0, cif_f nd, cif_f nl, cif_t e91, cif_f ho6]
      have hlt := hb.lt (p := p) (by omega)
      obtain ⟨es, fa2⟩ := fa.opn e91 (by omega)
      rw [eq] at hne hok1 hbad
      refine h3 A (o + 1) (p + 1) c (w + 1) 91 h (by omega) (by omega) (by decide) ((tpV_s w h).trans es) (by unfold isTm isPl; omega) fa2 (bnd_9 hne) (fun e h' c' w' k' r' q' nb => ?_) (fun e h' k' e45 => ?_)
      · have hi' := r'.i
        have hs' : tpV (w + 1) h' = nI 91 := (tpV_k k').trans ((tpV_s w h).trans es)
        rw [bnd_t e] at hok1 hbad
        by_cases e93 : b (px b u 3 A (o + 1) (p + 1)).2.1 = 93
        · rw [cif_t e93] at hok1
          refine v_close hok hb r' q' (by decide) hs' (by unfold isTm isPl; omega) nb e93 rfl rfl rfl (fun h2 c2 hc2 k2 r2 s2 => ?_)
          exact hok1 rfl h2 c2 (by have := q'.w; omega) ((k'.le (Nat.le_refl c) (Nat.le_succ w)).tr (k2.le (show c ≤ c' by have := q'.w; omega) (Nat.le_refl w)) (Nat.le_refl c) (Nat.le_refl w)) r2 s2
        · rw [cif_f e93] at hbad
          refine v_opn hok hb r' q' (by decide) hs' (by unfold isTm isPl; omega) nb e93 rfl (fun h2 k2 e45 => ?_)
          exact hbad (by show ¬ (1 : Nat) = 0; decide) h2 ((k'.le (Nat.le_refl c) (Nat.le_succ w)).tr (k2.le (show c ≤ c' by have := q'.w; omega) (Nat.le_succ w)) (Nat.le_refl c) (Nat.le_refl w)) e45
      · rw [bnd_f e] at hbad
        exact hbad e h' (k'.le (Nat.le_refl c) (Nat.le_succ w)) e45
  · have at0 := fa.atom e91 A
    rw [px_at e91] at hne hok1 hbad pk1 pk2
    by_cases e : (atR b p A).1 = 0
    · exact hok1 e h (c + 1) (Nat.lt_succ_self c) (YK.rf _ _ _) (at0.1 e).1 (at0.1 e).2
    · exact vbadK hok (by omega) pk2 (by omega) (at0.2 e) (hbad e)
theorem v1_step {E : En} (hok : EOK E) {Q : Option V → Hp → Prop} {h0 : Hp} {b : Nat → Nat} {n u : Nat} (hb : HB b n) (h0' : V0 E Q h0 b n u) (h2 : V2 E Q h0 b n u) : V1 E Q h0 b n (u + 1) := by
  intro A o p c w g h ho hp hg htp hn fa hne hok1 hbad
  rw [px_1] at hne hok1 hbad
  refine h0' A o p c w h ho hp fa (bnd_9 hne) (fun e h' c' hc' k' r' s' => ?_) (fun e h' k' e45 => ?_)
  · rw [bnd_t e] at hne hok1 hbad
    refine h2 _ o _ c c' w w g h' ho hg ((tpV_k k').trans htp) hn r' (Or.inl ⟨rfl, s'⟩) hne (fun e2 h2 c2 w2 k2 r2 q2 n2 => ?_) (fun e2 h2 k2 e45 => ?_)
    · exact hok1 e2 h2 c2 w2 (k'.tr k2 (Nat.le_refl _) (Nat.le_refl _)) r2 q2 n2
    · exact hbad e2 h2 (k'.tr k2 (Nat.le_refl _) (Nat.le_refl _)) e45
  · rw [bnd_f e] at hbad
    exact hbad e h' k' e45
theorem v2_step {E : En} (hok : EOK E) {Q : Option V → Hp → Prop} {h0 : Hp} {b : Nat → Nat} {n u : Nat} (hb : HB b n) (h0' : V0 E Q h0 b n u) (h2 : V2 E Q h0 b n u) : V2 E Q h0 b n (u + 1) := by
  intro A o p c0 c w0 w g h ho hg htp hn hr hq hne hok1 hbad
  have hi := hr.i
  by_cases tm : isTm (b p)
  · rw [px_2, cif_t tm] at hne hok1 hbad
    have hlt := hb.lt (isTm_ne tm)
    refine v_times hok hb hr hq hg htp hn tm ho (fun h1 c1 hc1 k1 s1 es fa => ?_)
    have k1' : YK c0 w0 h h1 := k1.le (by have := hq.w; omega) (Nat.le_refl w0)
    refine h0' A o (p + 1) c1 (w0 + 1) h1 ho (by omega) fa (bnd_9 hne) (fun e h' c' hc' k' r' s' => ?_) (fun e h' k' e45 => ?_)
    · rw [bnd_t e] at hne hok1 hbad
      have kk : YK c0 w0 h h' := k1'.tr k' (by have := s1.lt; omega) (Nat.le_succ w0)
      refine h2 _ o _ c0 c' w0 (w0 + 1) g h' ho hg ((tpV_k kk).trans htp) hn r' (Or.inr ⟨c1, b p, A, _, rfl, tm, (k'.2.2.2.2 w0 (Nat.lt_succ_self w0)).trans es, s1.k k' (Nat.le_refl c1), s', rfl⟩) hne (fun e2 h2 c2 w2 k2 r2 q2 n2 => ?_) (fun e2 h2 k2 e45 => ?_)
      · exact hok1 e2 h2 c2 w2 (kk.tr k2 (Nat.le_refl _) (Nat.le_refl _)) r2 q2 n2
      · exact hbad e2 h2 (kk.tr k2 (Nat.le_refl _) (Nat.le_refl _)) e45
    · rw [bnd_f e] at hbad
      exact hbad e h' (k1'.tr k' (by have := s1.lt; omega) (Nat.le_succ w0)) e45
  · rw [px_2, cif_f tm] at hok1
    exact hok1 rfl h c w (YK.rf _ _ _) hr hq tm
theorem v3_step {E : En} (hok : EOK E) {Q : Option V → Hp → Prop} {h0 : Hp} {b : Nat → Nat} {n u : Nat} (hb : HB b n) (h1 : V1 E Q h0 b n u) (h4 : V4 E Q h0 b n u) : V3 E Q h0 b n (u + 1) := by
  intro A o p c w g h ho hp hg htp hn fa hne hok1 hbad
  rw [px_3] at hne hok1 hbad
  refine h1 A o p c w g h ho hp hg htp hn.1 fa (bnd_9 hne) (fun e h' c' w' k' r' q' n' => ?_) (fun e h' k' e45 => ?_)
  · rw [bnd_t e] at hne hok1 hbad
    refine h4 _ o _ c c' w w' g h' ho hg ((tpV_k k').trans htp) hn r' (Or.inl q') n' hne (fun e2 h2 c2 w2 k2 r2 q2 n2 => ?_) (fun e2 h2 k2 e45 => ?_)
    · exact hok1 e2 h2 c2 w2 (k'.tr k2 (Nat.le_refl _) (Nat.le_refl _)) r2 q2 n2
    · exact hbad e2 h2 (k'.tr k2 (Nat.le_refl _) (Nat.le_refl _)) e45
  · rw [bnd_f e] at hbad
    exact hbad e h' k' e45
theorem v4_step {E : En} (hok : EOK E) {Q : Option V → Hp → Prop} {h0 : Hp} {b : Nat → Nat} {n u : Nat} (hb : HB b n) (h1' : V1 E Q h0 b n u) (h4 : V4 E Q h0 b n u) : V4 E Q h0 b n (u + 1) := by
  intro A o p c0 c w0 w g h ho hg htp hn hr hq nt hne hok1 hbad
  have hi := hr.i
  by_cases pl : isPl (b p)
  · rw [px_4, cif_t pl] at hne hok1 hbad
    have hlt := hb.lt (isPl_ne pl)
    refine v_plus hok hb hr hq hg htp hn pl ho (fun h1 c1 hc1 k1 s1 es fa => ?_)
    have k1' : YK c0 w0 h h1 := k1.le (by have := hq.w; omega) (Nat.le_refl w0)
    refine h1' A o (p + 1) c1 (w0 + 1) (b p) h1 ho (by omega) (isPl_256 pl) ((tpV_s w0 h1).trans es) (isPl_nt pl) fa (bnd_9 hne) (fun e h' c' w' k' r' q' n' => ?_) (fun e h' k' e45 => ?_)
    · rw [bnd_t e] at hne hok1 hbad
      have kk : YK c0 w0 h h' := k1'.tr k' (by have := s1.lt; omega) (Nat.le_succ w0)
      refine h4 _ o _ c0 c' w0 w' g h' ho hg ((tpV_k kk).trans htp) hn r' (Or.inr ⟨c1, b p, A, _, pl, (k'.2.2.2.2 w0 (Nat.lt_succ_self w0)).trans es, s1.k k' (Nat.le_refl c1), q', rfl⟩) n' hne (fun e2 h2 c2 w2 k2 r2 q2 n2 => ?_) (fun e2 h2 k2 e45 => ?_)
      · exact hok1 e2 h2 c2 w2 (kk.tr k2 (Nat.le_refl _) (Nat.le_refl _)) r2 q2 n2
      · exact hbad e2 h2 (kk.tr k2 (Nat.le_refl _) (Nat.le_refl _)) e45
    · rw [bnd_f e] at hbad
      exact hbad e h' (k1'.tr k' (by have := s1.lt; omega) (Nat.le_succ w0)) e45
  · rw [px_4, cif_f pl] at hok1
    exact hok1 rfl h c w (YK.rf _ _ _) hr hq ⟨nt, pl⟩
theorem v_all {E : En} (hok : EOK E) {Q : Option V → Hp → Prop} {h0 : Hp} {b : Nat → Nat} {n : Nat} (hb : HB b n) : ∀ u, V0 E Q h0 b n u ∧ V1 E Q h0 b n u ∧ V2 E Q h0 b n u ∧ V3 E Q h0 b n u ∧ V4 E Q h0 b n u
  | 0 => ⟨fun _ _ _ _ _ _ _ _ _ z => absurd rfl z, fun _ _ _ _ _ _ _ _ _ _ _ _ _ z => absurd rfl z, fun _ _ _ _ _ _ _ _ _ _ _ _ _ _ _ z => absurd rfl z, fun _ _ _ _ _ _ _ _ _ _ _ _ _ z => absurd rfl z, fun _ _ _ _ _ _ _ _ _ _ _ _ _ _ _ _ z => absurd rfl z⟩
  | u + 1 => by
    obtain ⟨a, c, d, e, f⟩ := v_all hok hb u
    exact ⟨v0_step hok hb e, v1_step hok hb a d, v2_step hok hb a d, v3_step hok hb c f, v4_step hok hb c f⟩
/-- what value() does -/
def VaP (b : Nat → Nat) (n p c w o : Nat) (A : Mng) (h : Hp) (r : Option V) (h' : Hp) : Prop := r = none ∧ YK c w h h' ∧ ((px b 1000 3 A o p).1 = 0 → ¬ b (px b 1000 3 A o p).2.1 = 93 → ∃ c', c < c' ∧ RS b n (px b 1000 3 A o p).2.1 c' w o h' ∧ SRh h' c c' false (px b 1000 3 A o p).2.2) ∧ ((px b 1000 3 A o p).1 = 0 → b (px b 1000 3 A o p).2.1 = 93 → h'.1 MO 45 = bdv 1 (px b 1000 3 A o p).2.1) ∧ (¬ (px b 1000 3 A o p).1 = 0 → h'.1 MO 45 = bdv (px b 1000 3 A o p).1 (px b 1000 3 A o p).2.1)
set_option maxRecDepth 4000 in
theorem cm_value {E : En} (hok : EOK E) {h : Hp} {b : Nat → Nat} {n p c w o g : Nat} (A : Mng) (hb : HB b n) (hr : RS b n p c w o h) (ho : o ≤ 6) (hg : g < 256) (htp : tpV w h = nI g) (hn : ¬ isTm g ∧ ¬ isPl g) (n91 : ¬ g = 91) : Call E m_X12_value 4 0 0 [vR MO] h (VaP b n p c w o A h) := by
  have hb1 := hb.1
  have hi := hr.i
  refine Call.enter hok (by decide) (Nat.le_of_ble_eq_true rfl) ?_
  show G E m_X12_value 4 0 0 _ h 0 [some (vR MO), none] [] h 0 0
  refine g_iconstN (n := 1) (pc' := 1) dX12_value_0 rfl ?_
  refine g_istore_n (pc' := 2) dX12_value_1 rfl (by decide) rfl ?_
  try simp only [List.set]
  refine g_aload_n (pc' := 3) dX12_value_2 rfl rfl ?_
  refine g_iconstN (n := 0) (pc' := 4) dX12_value_3 rfl ?_
  refine g_putI (pc' := 7) (k := 51) dX12_value_4 rfl rfl ck_13 (by decide) fl_X12_330 rfl rfl (by rfl) (by rfl) ?_
  refine g_iload_n (pc' := 8) dX12_value_7 rfl rfl ?_
  refine g_if_eqN (tgt := 57) (pc' := 11) dX12_value_8 rfl (by decide) (by decide) (fun q => False.elim (by revert q; decide)) (fun _ => ?_)
  refine g_aload_n (pc' := 12) dX12_value_11 rfl rfl ?_
  refine g_invV (pc' := 15) (cm_good (h := wI h MO 51 (nI 0)) hok hr.g) dX12_value_12 rfl rfl ck_13 rfl ml_X12_271 im_X12_isGood sl_X12_isGood in_X12 co_X12_isGood pd_X12_isGood rfl (by omega) (by decide) ⟨by decide, by decide⟩ (Nat.le_of_ble_eq_true rfl) ?_
  rintro _ _ ⟨rfl, rfl⟩ -
  refine g_if_eqN (tgt := 57) (pc' := 18) dX12_value_15 rfl (by decide) (by decide) (fun q => False.elim (by revert q; decide)) (fun _ => ?_)
  refine g_aload_n (pc' := 19) dX12_value_18 rfl rfl ?_
  refine g_getIv (v := nI (0)) (pc' := 22) (k := 51) dX12_value_19 rfl rfl ck_13 (by decide) fl_X12_330 rfl (rfl) ?_
  refine g_if_neN (tgt := 29) (pc' := 25) dX12_value_22 rfl (by decide) (by decide) (fun q => False.elim (by revert q; decide)) (fun _ => ?_)
  refine g_aload_n (pc' := 26) dX12_value_25 rfl rfl ?_
  refine g_invV (pc' := 29) (cm_factor hok hb hr.b51 ho) dX12_value_26 rfl rfl ck_13 rfl ml_X12_334 im_X12_factor sl_X12_factor in_X12 co_X12_factor pd_X12_factor rfl (by omega) (by decide) ⟨by decide, by decide⟩ (Nat.le_of_ble_eq_true rfl) ?_
  rintro _ h2 ⟨rfl, k2, fa⟩ -
  have kk : YK c w h h2 := (k51 c w (nI 0) h).tr k2 (Nat.le_refl _) (Nat.le_refl _)
  refine (v_all hok hb 1000).2.2.2.1 A o p c w g h2 ho hi.2 hg ((tpV_k kk).trans htp) hn fa (px_t hb 1000 3 A o p hi.2 (by show 4 * (n - p) + 3 ≤ 1000; omega)) (fun e h' c' w' k' r' q' nb => ?_) (fun e h' k' e45 => ?_)
  · have tp2 : tpV w h' = nI g := (tpV_k k').trans ((tpV_k kk).trans htp)
    have cw := q'.w
    by_cases e93 : b (px b 1000 3 A o p).2.1 = 93
    · exact v_badc hok hb r' q' hg tp2 hn nb e93 n91 (fun h3 k3 e45 => ⟨rfl, (kk.tr k' (Nat.le_refl _) (Nat.le_refl _)).tr k3 (by omega) (Nat.le_refl _), fun _ z => absurd e93 z, fun _ _ => e45, fun z => absurd e z⟩)
    · exact v_end hok hb r' q' hg tp2 hn nb e93 n91 (fun h3 c3 hc3 k3 r3 s3 => ⟨rfl, (kk.tr k' (Nat.le_refl _) (Nat.le_refl _)).tr k3 (by omega) (Nat.le_refl _), fun _ _ => ⟨c3, by omega, r3, s3⟩, fun _ z => absurd z e93, fun z => absurd e z⟩)
  · exact ⟨rfl, kk.tr k' (Nat.le_refl _) (Nat.le_refl _), fun z => absurd z e, fun z => absurd z e, fun _ => e45⟩
