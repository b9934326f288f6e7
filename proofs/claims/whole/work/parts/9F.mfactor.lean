/-! the reference: signs that wait, factors -/
abbrev SRh (h : Hp) (i j : Nat) (bo : Bool) (F : Mng) : Prop := SR (h.1 (141, 0)) (h.1 (142, 0)) i j bo F
theorem SRh.k {h h' : Hp} {i j c w : Nat} {bo : Bool} {F : Mng} (q : SRh h i j bo F) (k : YK c w h h') (hj : j ≤ c) : SRh h' i j bo F := q.congr (Nat.le_refl _) (Nat.le_refl _) (fun t _ ht => (k.2.2.2.1 t (by omega)).1) (fun t _ ht => (k.2.2.2.1 t (by omega)).2)
/-- a term whose last sign may wait; a sum whose last signs may wait -/
def QT (h : Hp) (c0 c w0 w : Nat) (A : Mng) : Prop := (w = w0 ∧ SRh h c0 c false A) ∨ ∃ (k t : Nat) (F1 F2 : Mng), w = w0 + 1 ∧ isTm t ∧ h.1 (152, 0) w0 = nI t ∧ SRh h c0 k false F1 ∧ SRh h k c false F2 ∧ A = fBin t F1 F2
def QE (h : Hp) (c0 c w0 w : Nat) (A : Mng) : Prop := QT h c0 c w0 w A ∨ ∃ (k g : Nat) (F1 T : Mng), isPl g ∧ h.1 (152, 0) w0 = nI g ∧ SRh h c0 k false F1 ∧ QT h k c (w0 + 1) w T ∧ A = fBin g F1 T
def popH (c w : Nat) (x : Int32) (h : Hp) : Hp := wI (emH c x (nI 0) h) MO 49 (nI w)
theorem YK.em {c w c1 : Nat} {x a : Int32} {h h1 : Hp} (k : YK c w h h1) (hc : c ≤ c1) : YK c w h (emH c1 x a h1) := ((k.c hc).d hc).f rfl
theorem YK.pop {c w c1 w1 : Nat} {x : Int32} {h h1 : Hp} (k : YK c w h h1) (hc : c ≤ c1) : YK c w h (popH c1 w1 x h1) := (k.em hc).f rfl
theorem YK.put {c w w1 p : Nat} {x : Int32} {h h1 : Hp} (k : YK c w h h1) (hw : w ≤ w1) : YK c w h (ptH w1 p x h1) := ((k.s hw).f rfl).f rfl
section RSS
variable {b : Nat → Nat} {n p c w o : Nat} {h : Hp}
theorem RS.s (t : RS b n p c w o h) : Shp h.2 := t.1.1
theorem RS.g (t : RS b n p c w o h) : h.1 MO 45 = 0 := t.2.2.2.2.2.1
theorem RS.i (t : RS b n p c w o h) : c + w ≤ p ∧ p ≤ n := t.2.2.2.2.2.2
theorem RS.pop {x : Int32} (t : RS b n p c (w + 1) o h) : RS b n p (c + 1) w o (popH c w x h) := ⟨t.1.k ((YK.rf 0 0 h).pop (Nat.zero_le c)), t.2.1, rfl, rfl, t.2.2.2.2.1, t.g, by have := t.i; omega, t.i.2⟩
theorem RS.put {x : Int32} (t : RS b n p c w o h) (hp : p < n) : RS b n (p + 1) c (w + 1) o (ptH w p x h) := ⟨t.1.k ((YK.rf 0 0 h).put (Nat.zero_le w)), rfl, t.2.2.1, rfl, t.2.2.2.2.1, t.g, by have := t.i; omega, by omega⟩
/-- a code that comes of a sign read -/
theorem RS.em {x a : Int32} {q : Nat} (t : RS b n p c w o h) (hq : p < q) (hn : q ≤ n) : RS b n q (c + 1) w o (wI (emH c x a h) MO 43 (nI q)) := ⟨t.1.k (((YK.rf 0 0 h).em (Nat.zero_le c)).f rfl), rfl, rfl, t.2.2.2.1, t.2.2.2.2.1, t.g, by have := t.i; omega, hn⟩
theorem em_c {x a : Int32} : (emH c x a h).1 (141, 0) c = x ∧ (emH c x a h).1 (142, 0) c = a := ⟨wI_same h (141, 0) c x, wI_same (wI h (141, 0) c x) (142, 0) c a⟩
end RSS
theorem QT.end0 {h : Hp} {c0 c w0 : Nat} {A : Mng} (q : QT h c0 c w0 w0 A) : SRh h c0 c false A := by
  rcases q with ⟨_, q⟩ | ⟨k, t, F1, F2, e, _⟩
  · exact q
  · omega
theorem SRh.op {h : Hp} {c0 k c w t : Nat} {F1 F2 : Mng} (ht : isAr t) (q1 : SRh h c0 k false F1) (q2 : SRh h k c false F2) : SRh (popH c w (nI t) h) c0 (c + 1) false (fBin t F1 F2) :=
  SR.ari (q1.k ((YK.rf c 0 h).pop (Nat.le_refl c)) (by have := q2.lt; omega)) (q2.k ((YK.rf c 0 h).pop (Nat.le_refl c)) (Nat.le_refl c)) (em_c (a := nI 0)).1 ht
set_option maxRecDepth 4000 in
theorem sm_end0 {E : En} (hok : EOK E) {b : Nat → Nat} {n p c w o g : Nat} {h h0 : Hp} {Q : Option V → Hp → Prop} (hg256 : g < 256) (hr : RS b n p c w o h) (hw : w ≤ 240) (htp : tpV w h = nI g) (hn : ¬ isTm g) (hQ : Q none h) : G E m_X12_sums 2 0 0 Q h0 0 [some (vR MO), some (vI (nI 0))] [] h 0 0 := by
  refine g_aload_n (pc' := 1) dX12_sums_0 rfl rfl ?_
  refine g_invV (pc' := 4) (cm_top hok hr.s hr.2.2.2.1 hw htp) dX12_sums_1 rfl rfl ck_13 rfl ml_X12_305 im_X12_top sl_X12_top in_X12 co_X12_top pd_X12_top rfl (by omega) (by decide) ⟨by decide, by decide⟩ (Nat.le_of_ble_eq_true rfl) ?_
  rintro _ _ ⟨rfl, rfl⟩ -
  refine g_invS (pc' := 7) (cm_isTm hok hg256) dX12_sums_4 rfl ml_X12_308 st_X12_isTimes in_X12 co_X12_isTimes pd_X12_isTimes rfl (by omega) (by decide) ⟨by decide, by decide⟩ (Nat.le_of_ble_eq_true rfl) ?_
  rintro _ _ ⟨rfl, rfl⟩ -
  refine g_ifB_ne (tgt := 24) (pc' := 10) dX12_sums_7 rfl (by decide) (fun c7 => ?_) (fun c7 => ?_)
  · exact absurd c7 hn
  ·
    refine g_iload_n (pc' := 11) dX12_sums_10 rfl rfl ?_
    refine g_if_eqN (tgt := 46) (pc' := 14) dX12_sums_11 rfl (by decide) (by decide) (fun _ => ?_) (fun q => False.elim (by revert q; decide))
    refine g_vret dX12_sums_46 rfl (by decide) (by decide) ?_
    exact hQ
set_option maxRecDepth 4000 in
theorem sm_pop0 {E : En} (hok : EOK E) {b : Nat → Nat} {n p c w o g : Nat} {h h0 : Hp} {Q : Option V → Hp → Prop} (hg256 : g < 256) (hr : RS b n p c (w + 1) o h) (hw : w + 1 ≤ 240) (hc200 : c < 200) (htp : tpV (w + 1) h = nI g) (hn : isTm g) (K : G E m_X12_sums 2 0 0 Q h0 0 [some (vR MO), some (vI (nI 0))] [] (popH c w (nI g) h) 0 0) : G E m_X12_sums 2 0 0 Q h0 0 [some (vR MO), some (vI (nI 0))] [] h 0 0 := by
  refine g_aload_n (pc' := 1) dX12_sums_0 rfl rfl ?_
  refine g_invV (pc' := 4) (cm_top hok hr.s hr.2.2.2.1 hw htp) dX12_sums_1 rfl rfl ck_13 rfl ml_X12_305 im_X12_top sl_X12_top in_X12 co_X12_top pd_X12_top rfl (by omega) (by decide) ⟨by decide, by decide⟩ (Nat.le_of_ble_eq_true rfl) ?_
  rintro _ _ ⟨rfl, rfl⟩ -
  refine g_invS (pc' := 7) (cm_isTm hok hg256) dX12_sums_4 rfl ml_X12_308 st_X12_isTimes in_X12 co_X12_isTimes pd_X12_isTimes rfl (by omega) (by decide) ⟨by decide, by decide⟩ (Nat.le_of_ble_eq_true rfl) ?_
  rintro _ _ ⟨rfl, rfl⟩ -
  refine g_ifB_ne (tgt := 24) (pc' := 10) dX12_sums_7 rfl (by decide) (fun c7 => ?_) (fun c7 => ?_)
  ·
    refine g_aload_n (pc' := 25) dX12_sums_24 rfl rfl ?_
    refine g_aload_n (pc' := 26) dX12_sums_25 rfl rfl ?_
    refine g_invV (pc' := 29) (cm_top hok hr.s hr.2.2.2.1 hw htp) dX12_sums_26 rfl rfl ck_13 rfl ml_X12_305 im_X12_top sl_X12_top in_X12 co_X12_top pd_X12_top rfl (by omega) (by decide) ⟨by decide, by decide⟩ (Nat.le_of_ble_eq_true rfl) ?_
    rintro _ _ ⟨rfl, rfl⟩ -
    refine g_iconstN (n := 0) (pc' := 30) dX12_sums_29 rfl ?_
    refine g_invV (pc' := 33) (cm_emit hok hr.s hr.g hr.2.2.1 hc200 _ _) dX12_sums_30 rfl rfl ck_13 rfl ml_X12_314 im_X12_emit sl_X12_emit in_X12 co_X12_emit pd_X12_emit rfl (by omega) (by decide) ⟨by decide, by decide⟩ (Nat.le_of_ble_eq_true rfl) ?_
    rintro _ _ ⟨rfl, rfl⟩ -
    refine g_aload_n (pc' := 34) dX12_sums_33 rfl rfl ?_
    refine g_dup (pc' := 35) dX12_sums_34 rfl rfl ?_
    refine g_getIv (v := nI (w + 1)) (pc' := 38) (k := 49) dX12_sums_35 rfl rfl ck_13 (by decide) fl_X12_278 rfl (hr.2.2.2.1) ?_
    refine g_iconstN (n := 1) (pc' := 39) dX12_sums_38 rfl ?_
    refine g_isubN (pc' := 40) dX12_sums_39 rfl (by omega) ?_
    refine g_putI (pc' := 43) (k := 49) dX12_sums_40 rfl rfl ck_13 (by decide) fl_X12_278 rfl rfl rfl rfl ?_
    refine g_goto (tgt := 0) dX12_sums_43 (by decide) ?_
    exact K
  · exact absurd hn c7
set_option maxRecDepth 4000 in
theorem sm_end1 {E : En} (hok : EOK E) {b : Nat → Nat} {n p c w o g : Nat} {h h0 : Hp} {Q : Option V → Hp → Prop} (hg256 : g < 256) (hr : RS b n p c w o h) (hw : w ≤ 240) (htp : tpV w h = nI g) (hn : ¬ isTm g ∧ ¬ isPl g) (hQ : Q none h) : G E m_X12_sums 2 0 0 Q h0 0 [some (vR MO), some (vI (nI 1))] [] h 0 0 := by
  refine g_aload_n (pc' := 1) dX12_sums_0 rfl rfl ?_
  refine g_invV (pc' := 4) (cm_top hok hr.s hr.2.2.2.1 hw htp) dX12_sums_1 rfl rfl ck_13 rfl ml_X12_305 im_X12_top sl_X12_top in_X12 co_X12_top pd_X12_top rfl (by omega) (by decide) ⟨by decide, by decide⟩ (Nat.le_of_ble_eq_true rfl) ?_
  rintro _ _ ⟨rfl, rfl⟩ -
  refine g_invS (pc' := 7) (cm_isTm hok hg256) dX12_sums_4 rfl ml_X12_308 st_X12_isTimes in_X12 co_X12_isTimes pd_X12_isTimes rfl (by omega) (by decide) ⟨by decide, by decide⟩ (Nat.le_of_ble_eq_true rfl) ?_
  rintro _ _ ⟨rfl, rfl⟩ -
  refine g_ifB_ne (tgt := 24) (pc' := 10) dX12_sums_7 rfl (by decide) (fun c7 => ?_) (fun c7 => ?_)
  · exact absurd c7 hn.1
  ·
    refine g_iload_n (pc' := 11) dX12_sums_10 rfl rfl ?_
    refine g_if_eqN (tgt := 46) (pc' := 14) dX12_sums_11 rfl (by decide) (by decide) (fun q => False.elim (by revert q; decide)) (fun _ => ?_)
    refine g_aload_n (pc' := 15) dX12_sums_14 rfl rfl ?_
    refine g_invV (pc' := 18) (cm_top hok hr.s hr.2.2.2.1 hw htp) dX12_sums_15 rfl rfl ck_13 rfl ml_X12_305 im_X12_top sl_X12_top in_X12 co_X12_top pd_X12_top rfl (by omega) (by decide) ⟨by decide, by decide⟩ (Nat.le_of_ble_eq_true rfl) ?_
    rintro _ _ ⟨rfl, rfl⟩ -
    refine g_invS (pc' := 21) (cm_isPl hok hg256) dX12_sums_18 rfl ml_X12_311 st_X12_isPlus in_X12 co_X12_isPlus pd_X12_isPlus rfl (by omega) (by decide) ⟨by decide, by decide⟩ (Nat.le_of_ble_eq_true rfl) ?_
    rintro _ _ ⟨rfl, rfl⟩ -
    refine g_ifB_eq (tgt := 46) (pc' := 24) dX12_sums_21 rfl (by decide) (fun c21 => ?_) (fun c21 => ?_)
    ·
      refine g_vret dX12_sums_46 rfl (by decide) (by decide) ?_
      exact hQ
    · exact absurd c21 hn.2
set_option maxRecDepth 4000 in
theorem sm_pop1 {E : En} (hok : EOK E) {b : Nat → Nat} {n p c w o g : Nat} {h h0 : Hp} {Q : Option V → Hp → Prop} (hg256 : g < 256) (hr : RS b n p c (w + 1) o h) (hw : w + 1 ≤ 240) (hc200 : c < 200) (htp : tpV (w + 1) h = nI g) (hn : isTm g ∨ isPl g) (K : G E m_X12_sums 2 0 0 Q h0 0 [some (vR MO), some (vI (nI 1))] [] (popH c w (nI g) h) 0 0) : G E m_X12_sums 2 0 0 Q h0 0 [some (vR MO), some (vI (nI 1))] [] h 0 0 := by
  refine g_aload_n (pc' := 1) dX12_sums_0 rfl rfl ?_
  refine g_invV (pc' := 4) (cm_top hok hr.s hr.2.2.2.1 hw htp) dX12_sums_1 rfl rfl ck_13 rfl ml_X12_305 im_X12_top sl_X12_top in_X12 co_X12_top pd_X12_top rfl (by omega) (by decide) ⟨by decide, by decide⟩ (Nat.le_of_ble_eq_true rfl) ?_
  rintro _ _ ⟨rfl, rfl⟩ -
  refine g_invS (pc' := 7) (cm_isTm hok hg256) dX12_sums_4 rfl ml_X12_308 st_X12_isTimes in_X12 co_X12_isTimes pd_X12_isTimes rfl (by omega) (by decide) ⟨by decide, by decide⟩ (Nat.le_of_ble_eq_true rfl) ?_
  rintro _ _ ⟨rfl, rfl⟩ -
  refine g_ifB_ne (tgt := 24) (pc' := 10) dX12_sums_7 rfl (by decide) (fun c7 => ?_) (fun c7 => ?_)
  ·
    refine g_aload_n (pc' := 25) dX12_sums_24 rfl rfl ?_
    refine g_aload_n (pc' := 26) dX12_sums_25 rfl rfl ?_
    refine g_invV (pc' := 29) (cm_top hok hr.s hr.2.2.2.1 hw htp) dX12_sums_26 rfl rfl ck_13 rfl ml_X12_305 im_X12_top sl_X12_top in_X12 co_X12_top pd_X12_top rfl (by omega) (by decide) ⟨by decide, by decide⟩ (Nat.le_of_ble_eq_true rfl) ?_
    rintro _ _ ⟨rfl, rfl⟩ -
    refine g_iconstN (n := 0) (pc' := 30) dX12_sums_29 rfl ?_
    refine g_invV (pc' := 33) (cm_emit hok hr.s hr.g hr.2.2.1 hc200 _ _) dX12_sums_30 rfl rfl ck_13 rfl ml_X12_314 im_X12_emit sl_X12_emit in_X12 co_X12_emit pd_X12_emit rfl (by omega) (by decide) ⟨by decide, by decide⟩ (Nat.le_of_ble_eq_true rfl) ?_
    rintro _ _ ⟨rfl, rfl⟩ -
    refine g_aload_n (pc' := 34) dX12_sums_33 rfl rfl ?_
    refine g_dup (pc' := 35) dX12_sums_34 rfl rfl ?_
    refine g_getIv (v := nI (w + 1)) (pc' := 38) (k := 49) dX12_sums_35 rfl rfl ck_13 (by decide) fl_X12_278 rfl (hr.2.2.2.1) ?_
    refine g_iconstN (n := 1) (pc' := 39) dX12_sums_38 rfl ?_
    refine g_isubN (pc' := 40) dX12_sums_39 rfl (by omega) ?_
    refine g_putI (pc' := 43) (k := 49) dX12_sums_40 rfl rfl ck_13 (by decide) fl_X12_278 rfl rfl rfl rfl ?_
    refine g_goto (tgt := 0) dX12_sums_43 (by decide) ?_
    exact K
  ·
    refine g_iload_n (pc' := 11) dX12_sums_10 rfl rfl ?_
    refine g_if_eqN (tgt := 46) (pc' := 14) dX12_sums_11 rfl (by decide) (by decide) (fun q => False.elim (by revert q; decide)) (fun _ => ?_)
    refine g_aload_n (pc' := 15) dX12_sums_14 rfl rfl ?_
    refine g_invV (pc' := 18) (cm_top hok hr.s hr.2.2.2.1 hw htp) dX12_sums_15 rfl rfl ck_13 rfl ml_X12_305 im_X12_top sl_X12_top in_X12 co_X12_top pd_X12_top rfl (by omega) (by decide) ⟨by decide, by decide⟩ (Nat.le_of_ble_eq_true rfl) ?_
    rintro _ _ ⟨rfl, rfl⟩ -
    refine g_invS (pc' := 21) (cm_isPl hok hg256) dX12_sums_18 rfl ml_X12_311 st_X12_isPlus in_X12 co_X12_isPlus pd_X12_isPlus rfl (by omega) (by decide) ⟨by decide, by decide⟩ (Nat.le_of_ble_eq_true rfl) ?_
    rintro _ _ ⟨rfl, rfl⟩ -
    refine g_ifB_eq (tgt := 46) (pc' := 24) dX12_sums_21 rfl (by decide) (fun c21 => ?_) (fun c21 => ?_)
    · exact absurd hn (fun z => by rcases z with z | z; exact c7 z; exact c21 z)
    ·
      refine g_aload_n (pc' := 25) dX12_sums_24 rfl rfl ?_
      refine g_aload_n (pc' := 26) dX12_sums_25 rfl rfl ?_
      refine g_invV (pc' := 29) (cm_top hok hr.s hr.2.2.2.1 hw htp) dX12_sums_26 rfl rfl ck_13 rfl ml_X12_305 im_X12_top sl_X12_top in_X12 co_X12_top pd_X12_top rfl (by omega) (by decide) ⟨by decide, by decide⟩ (Nat.le_of_ble_eq_true rfl) ?_
      rintro _ _ ⟨rfl, rfl⟩ -
      refine g_iconstN (n := 0) (pc' := 30) dX12_sums_29 rfl ?_
      refine g_invV (pc' := 33) (cm_emit hok hr.s hr.g hr.2.2.1 hc200 _ _) dX12_sums_30 rfl rfl ck_13 rfl ml_X12_314 im_X12_emit sl_X12_emit in_X12 co_X12_emit pd_X12_emit rfl (by omega) (by decide) ⟨by decide, by decide⟩ (Nat.le_of_ble_eq_true rfl) ?_
      rintro _ _ ⟨rfl, rfl⟩ -
      refine g_aload_n (pc' := 34) dX12_sums_33 rfl rfl ?_
      refine g_dup (pc' := 35) dX12_sums_34 rfl rfl ?_
      refine g_getIv (v := nI (w + 1)) (pc' := 38) (k := 49) dX12_sums_35 rfl rfl ck_13 (by decide) fl_X12_278 rfl (hr.2.2.2.1) ?_
      refine g_iconstN (n := 1) (pc' := 39) dX12_sums_38 rfl ?_
      refine g_isubN (pc' := 40) dX12_sums_39 rfl (by omega) ?_
      refine g_putI (pc' := 43) (k := 49) dX12_sums_40 rfl rfl ck_13 (by decide) fl_X12_278 rfl rfl rfl rfl ?_
      refine g_goto (tgt := 0) dX12_sums_43 (by decide) ?_
      exact K
theorem isAr_t {t : Nat} (h : isTm t) : isAr t := by unfold isAr; unfold isTm at h; omega
theorem isAr_p {t : Nat} (h : isPl t) : isAr t := by unfold isAr; unfold isPl at h; omega
theorem isTm_256 {t : Nat} (h : isTm t) : t < 256 := by unfold isTm at h; omega
theorem isPl_256 {t : Nat} (h : isPl t) : t < 256 := by unfold isPl at h; omega
theorem isPl_nt {t : Nat} (h : isPl t) : ¬ isTm t := by unfold isPl at h; unfold isTm; omega
/-- what the signs that waited leave -/
def SmP (b : Nat → Nat) (n p c c0 w0 o : Nat) (A : Mng) (h : Hp) (r : Option V) (h' : Hp) : Prop := r = none ∧ ∃ c', c ≤ c' ∧ RS b n p c' w0 o h' ∧ YK c w0 h h' ∧ SRh h' c0 c' false A ∧ h'.1 MO 51 = h.1 MO 51
theorem tpV_pop {w c w' : Nat} {x : Int32} {h : Hp} (hw : w ≤ w') : tpV w (popH c w' x h) = tpV w h := tpV_k ((YK.rf 0 w h).pop (Nat.zero_le c))
theorem sm_goF {E : En} (hok : EOK E) {b : Nat → Nat} {n p c c0 w w0 o g : Nat} {A : Mng} {h h0 : Hp} {Q : Option V → Hp → Prop} (hb : HB b n) (hr : RS b n p c w o h) (hq : QT h c0 c w0 w A) (hg : g < 256) (htp : tpV w0 h = nI g) (hn : ¬ isTm g) (hQ : ∀ h', SmP b n p c c0 w0 o A h none h' → Q none h') : G E m_X12_sums 2 0 0 Q h0 0 [some (vR MO), some (vI (nI 0))] [] h 0 0 := by
  have hb1 := hb.1
  have hi := hr.i
  rcases hq with ⟨rfl, q⟩ | ⟨k, t, F1, F2, rfl, ht, es, q1, q2, rfl⟩
  · exact sm_end0 hok hg hr (by omega) htp hn (hQ h ⟨rfl, c, Nat.le_refl c, hr, YK.rf _ _ _, q, rfl⟩)
  · refine sm_pop0 hok (isTm_256 ht) hr (by omega) (by omega) ((tpV_s w0 h).trans es) ht ?_
    refine sm_end0 hok hg hr.pop (by omega) ((tpV_pop (Nat.le_refl w0)).trans htp) hn (hQ _ ⟨rfl, c + 1, by omega, hr.pop, (YK.rf c w0 h).pop (Nat.le_refl c), SRh.op (isAr_t ht) q1 q2, rfl⟩)
theorem sm_goT {E : En} (hok : EOK E) {b : Nat → Nat} {n p c c0 w w0 o g : Nat} {A : Mng} {h h0 : Hp} {Q : Option V → Hp → Prop} (hb : HB b n) (hr : RS b n p c w o h) (hq : QE h c0 c w0 w A) (hg : g < 256) (htp : tpV w0 h = nI g) (hn : ¬ isTm g ∧ ¬ isPl g) (hQ : ∀ h', SmP b n p c c0 w0 o A h none h' → Q none h') : G E m_X12_sums 2 0 0 Q h0 0 [some (vR MO), some (vI (nI 1))] [] h 0 0 := by
  have hb1 := hb.1
  have hi := hr.i
  rcases hq with (⟨rfl, q⟩ | ⟨k, t, F1, F2, rfl, ht, es, q1, q2, rfl⟩) | ⟨k, g1, F1, T, hg1, eg, q1, hq2, rfl⟩
  · exact sm_end1 hok hg hr (by omega) htp hn (hQ h ⟨rfl, c, Nat.le_refl c, hr, YK.rf _ _ _, q, rfl⟩)
  · refine sm_pop1 hok (isTm_256 ht) hr (by omega) (by omega) ((tpV_s w0 h).trans es) (Or.inl ht) ?_
    exact sm_end1 hok hg hr.pop (by omega) ((tpV_pop (Nat.le_refl w0)).trans htp) hn (hQ _ ⟨rfl, c + 1, by omega, hr.pop, (YK.rf c w0 h).pop (Nat.le_refl c), SRh.op (isAr_t ht) q1 q2, rfl⟩)
  · rcases hq2 with ⟨rfl, q2⟩ | ⟨k2, t, F2, F3, rfl, ht, es, q2, q3, rfl⟩
    · refine sm_pop1 hok (isPl_256 hg1) hr (by omega) (by omega) ((tpV_s w0 h).trans eg) (Or.inr hg1) ?_
      exact sm_end1 hok hg hr.pop (by omega) ((tpV_pop (Nat.le_refl w0)).trans htp) hn (hQ _ ⟨rfl, c + 1, by omega, hr.pop, (YK.rf c w0 h).pop (Nat.le_refl c), SRh.op (isAr_p hg1) q1 q2, rfl⟩)
    · refine sm_pop1 hok (isTm_256 ht) hr (by omega) (by omega) ((tpV_s (w0 + 1) h).trans es) (Or.inl ht) ?_
      have k1 : YK c (w0 + 1) h (popH c (w0 + 1) (nI t) h) := (YK.rf c (w0 + 1) h).pop (Nat.le_refl c)
      refine sm_pop1 hok (isPl_256 hg1) hr.pop (by omega) (by omega) ((tpV_k k1).trans ((tpV_s w0 h).trans eg)) (Or.inr hg1) ?_
      refine sm_end1 hok hg hr.pop.pop (by omega) ((tpV_pop (Nat.le_refl w0)).trans ((tpV_pop (Nat.le_succ w0)).trans htp)) hn (hQ _ ⟨rfl, c + 1 + 1, by omega, hr.pop.pop, ((YK.rf c w0 h).pop (Nat.le_refl c)).pop (Nat.le_succ c), SRh.op (isAr_p hg1) (q1.k k1 (by have := q2.lt; have := q3.lt; omega)) (SRh.op (isAr_t ht) q2 q3), rfl⟩)
theorem cm_sums0 {E : En} (hok : EOK E) {b : Nat → Nat} {n p c c0 w w0 o g : Nat} {A : Mng} {h : Hp} (hb : HB b n) (hr : RS b n p c w o h) (hq : QT h c0 c w0 w A) (hg : g < 256) (htp : tpV w0 h = nI g) (hn : ¬ isTm g) : Call E m_X12_sums 2 0 0 [vR MO, vI (nI 0)] h (SmP b n p c c0 w0 o A h) :=
  Call.enter hok (by decide) (Nat.le_of_ble_eq_true rfl) (sm_goF hok hb hr hq hg htp hn (fun _ q => q))
theorem cm_sums1 {E : En} (hok : EOK E) {b : Nat → Nat} {n p c c0 w w0 o g : Nat} {A : Mng} {h : Hp} (hb : HB b n) (hr : RS b n p c w o h) (hq : QE h c0 c w0 w A) (hg : g < 256) (htp : tpV w0 h = nI g) (hn : ¬ isTm g ∧ ¬ isPl g) : Call E m_X12_sums 2 0 0 [vR MO, vI (nI 1)] h (SmP b n p c c0 w0 o A h) :=
  Call.enter hok (by decide) (Nat.le_of_ble_eq_true rfl) (sm_goT hok hb hr hq hg htp hn (fun _ q => q))
set_option maxRecDepth 4000 in
theorem st_times {E : En} (hok : EOK E) {h : Hp} {b : Nat → Nat} {n p c c0 w w0 o g : Nat} {A : Mng} (hb : HB b n) (hr : RS b n p c w o h) (hq : QT h c0 c w0 w A) (hg : g < 256) (htp : tpV w0 h = nI g) (hn : ¬ isTm g) (tm : isTm (b p)) : Call E m_X12_stays 3 0 0 [vR MO] h (fun r h' => r = some (vI (nI 1)) ∧ ∃ c', c ≤ c' ∧ RS b n (p + 1) c' (w0 + 1) o h' ∧ YK c w0 h h' ∧ SRh h' c0 c' false A ∧ h'.1 (152, 0) w0 = nI (b p) ∧ h'.1 MO 51 = h.1 MO 51) := by
  have hb1 := hb.1
  have h256 := hb.2.1 p
  have hi := hr.i
  have hp4 : p ≤ 400 := by omega
  refine Call.enter hok (by decide) (Nat.le_of_ble_eq_true rfl) ?_
  show G E m_X12_stays 3 0 0 _ h 0 [some (vR MO), none] [] h 0 0
  refine g_aload_n (pc' := 1) dX12_stays_0 rfl rfl ?_
  refine g_invV (pc' := 4) (cm_here hok hb hr.1 hr.2.1 hp4) dX12_stays_1 rfl rfl ck_13 rfl ml_X12_288 im_X12_here sl_X12_here in_X12 co_X12_here pd_X12_here rfl (by omega) (by decide) ⟨by decide, by decide⟩ (Nat.le_of_ble_eq_true rfl) ?_
  rintro _ _ ⟨rfl, rfl⟩ -
  refine g_istore_n (pc' := 5) dX12_stays_4 rfl (by decide) rfl ?_
  try simp only [List.set]
  refine g_iload_n (pc' := 6) dX12_stays_5 rfl rfl ?_
  refine g_invS (pc' := 9) (cm_isTm hok (hb.2.1 p)) dX12_stays_6 rfl ml_X12_308 st_X12_isTimes in_X12 co_X12_isTimes pd_X12_isTimes rfl (by omega) (by decide) ⟨by decide, by decide⟩ (Nat.le_of_ble_eq_true rfl) ?_
  rintro _ _ ⟨rfl, rfl⟩ -
  refine g_ifB_ne (tgt := 19) (pc' := 12) dX12_stays_9 rfl (by decide) (fun c9 => ?_) (fun c9 => ?_)
  ·
    refine g_aload_n (pc' := 20) dX12_stays_19 rfl rfl ?_
    refine g_iload_n (pc' := 21) dX12_stays_20 rfl rfl ?_
    refine g_invS (pc' := 24) (cm_isPl hok (hb.2.1 p)) dX12_stays_21 rfl ml_X12_311 st_X12_isPlus in_X12 co_X12_isPlus pd_X12_isPlus rfl (by omega) (by decide) ⟨by decide, by decide⟩ (Nat.le_of_ble_eq_true rfl) ?_
    rintro _ _ ⟨rfl, rfl⟩ -
    rw [show bi (isPl (b p)) = nI 0 from bi_f (fun z => isPl_nt z tm)]
    refine g_invV (pc' := 27) (cm_sums0 hok hb hr hq hg htp hn) dX12_stays_24 rfl rfl ck_13 rfl ml_X12_326 im_X12_sums sl_X12_sums in_X12 co_X12_sums pd_X12_sums rfl (by omega) (by decide) ⟨by decide, by decide⟩ (Nat.le_of_ble_eq_true rfl) ?_
    rintro _ h1 ⟨rfl, c1, hc1, hr1, k1, sr1, e51⟩ -
    have hi1 := hr1.i
    refine g_aload_n (pc' := 28) dX12_stays_27 rfl rfl ?_
    refine g_iload_n (pc' := 29) dX12_stays_28 rfl rfl ?_
    refine g_invV (pc' := 32) (cm_puts hok hr1.s hr1.2.2.2.1 hr1.2.1 (by omega) _) dX12_stays_29 rfl rfl ck_13 rfl ml_X12_292 im_X12_puts sl_X12_puts in_X12 co_X12_puts pd_X12_puts rfl (by omega) (by decide) ⟨by decide, by decide⟩ (Nat.le_of_ble_eq_true rfl) ?_
    rintro _ _ ⟨rfl, rfl⟩ -
    refine g_iconstN (n := 1) (pc' := 33) dX12_stays_32 rfl ?_
    refine g_zret dX12_stays_33 rfl (by rfl) (by decide) (by decide) ?_
    have hlt := hb.lt (isTm_ne tm)
    exact ⟨rfl, c1, hc1, hr1.put hlt, k1.put (Nat.le_refl w0), sr1, wI_same h1 (152, 0) w0 (nI (b p)), e51⟩
  · exact absurd tm c9
set_option maxRecDepth 4000 in
theorem st_plus {E : En} (hok : EOK E) {h : Hp} {b : Nat → Nat} {n p c c0 w w0 o g : Nat} {A : Mng} (hb : HB b n) (hr : RS b n p c w o h) (hq : QE h c0 c w0 w A) (hg : g < 256) (htp : tpV w0 h = nI g) (hn : ¬ isTm g ∧ ¬ isPl g) (pl : isPl (b p)) : Call E m_X12_stays 3 0 0 [vR MO] h (fun r h' => r = some (vI (nI 1)) ∧ ∃ c', c ≤ c' ∧ RS b n (p + 1) c' (w0 + 1) o h' ∧ YK c w0 h h' ∧ SRh h' c0 c' false A ∧ h'.1 (152, 0) w0 = nI (b p) ∧ h'.1 MO 51 = h.1 MO 51) := by
  have hb1 := hb.1
  have h256 := hb.2.1 p
  have hi := hr.i
  have hp4 : p ≤ 400 := by omega
  refine Call.enter hok (by decide) (Nat.le_of_ble_eq_true rfl) ?_
  show G E m_X12_stays 3 0 0 _ h 0 [some (vR MO), none] [] h 0 0
  refine g_aload_n (pc' := 1) dX12_stays_0 rfl rfl ?_
  refine g_invV (pc' := 4) (cm_here hok hb hr.1 hr.2.1 hp4) dX12_stays_1 rfl rfl ck_13 rfl ml_X12_288 im_X12_here sl_X12_here in_X12 co_X12_here pd_X12_here rfl (by omega) (by decide) ⟨by decide, by decide⟩ (Nat.le_of_ble_eq_true rfl) ?_
  rintro _ _ ⟨rfl, rfl⟩ -
  refine g_istore_n (pc' := 5) dX12_stays_4 rfl (by decide) rfl ?_
  try simp only [List.set]
  refine g_iload_n (pc' := 6) dX12_stays_5 rfl rfl ?_
  refine g_invS (pc' := 9) (cm_isTm hok (hb.2.1 p)) dX12_stays_6 rfl ml_X12_308 st_X12_isTimes in_X12 co_X12_isTimes pd_X12_isTimes rfl (by omega) (by decide) ⟨by decide, by decide⟩ (Nat.le_of_ble_eq_true rfl) ?_
  rintro _ _ ⟨rfl, rfl⟩ -
  refine g_ifB_ne (tgt := 19) (pc' := 12) dX12_stays_9 rfl (by decide) (fun c9 => ?_) (fun c9 => ?_)
  · exact absurd c9 (isPl_nt pl)
  ·
    refine g_iload_n (pc' := 13) dX12_stays_12 rfl rfl ?_
    refine g_invS (pc' := 16) (cm_isPl hok (hb.2.1 p)) dX12_stays_13 rfl ml_X12_311 st_X12_isPlus in_X12 co_X12_isPlus pd_X12_isPlus rfl (by omega) (by decide) ⟨by decide, by decide⟩ (Nat.le_of_ble_eq_true rfl) ?_
    rintro _ _ ⟨rfl, rfl⟩ -
    refine g_ifB_eq (tgt := 34) (pc' := 19) dX12_stays_16 rfl (by decide) (fun c16 => ?_) (fun c16 => ?_)
    · exact absurd pl c16
    ·
      refine g_aload_n (pc' := 20) dX12_stays_19 rfl rfl ?_
      refine g_iload_n (pc' := 21) dX12_stays_20 rfl rfl ?_
      refine g_invS (pc' := 24) (cm_isPl hok (hb.2.1 p)) dX12_stays_21 rfl ml_X12_311 st_X12_isPlus in_X12 co_X12_isPlus pd_X12_isPlus rfl (by omega) (by decide) ⟨by decide, by decide⟩ (Nat.le_of_ble_eq_true rfl) ?_
      rintro _ _ ⟨rfl, rfl⟩ -
      rw [show bi (isPl (b p)) = nI 1 from bi_t pl]
      refine g_invV (pc' := 27) (cm_sums1 hok hb hr hq hg htp hn) dX12_stays_24 rfl rfl ck_13 rfl ml_X12_326 im_X12_sums sl_X12_sums in_X12 co_X12_sums pd_X12_sums rfl (by omega) (by decide) ⟨by decide, by decide⟩ (Nat.le_of_ble_eq_true rfl) ?_
      rintro _ h1 ⟨rfl, c1, hc1, hr1, k1, sr1, e51⟩ -
      have hi1 := hr1.i
      refine g_aload_n (pc' := 28) dX12_stays_27 rfl rfl ?_
      refine g_iload_n (pc' := 29) dX12_stays_28 rfl rfl ?_
      refine g_invV (pc' := 32) (cm_puts hok hr1.s hr1.2.2.2.1 hr1.2.1 (by omega) _) dX12_stays_29 rfl rfl ck_13 rfl ml_X12_292 im_X12_puts sl_X12_puts in_X12 co_X12_puts pd_X12_puts rfl (by omega) (by decide) ⟨by decide, by decide⟩ (Nat.le_of_ble_eq_true rfl) ?_
      rintro _ _ ⟨rfl, rfl⟩ -
      refine g_iconstN (n := 1) (pc' := 33) dX12_stays_32 rfl ?_
      refine g_zret dX12_stays_33 rfl (by rfl) (by decide) (by decide) ?_
      have hlt := hb.lt (isPl_ne pl)
      exact ⟨rfl, c1, hc1, hr1.put hlt, k1.put (Nat.le_refl w0), sr1, wI_same h1 (152, 0) w0 (nI (b p)), e51⟩
set_option maxRecDepth 4000 in
theorem st_end {E : En} (hok : EOK E) {h : Hp} {b : Nat → Nat} {n p c c0 w w0 o g : Nat} {A : Mng} (hb : HB b n) (hr : RS b n p c w o h) (hq : QE h c0 c w0 w A) (hg : g < 256) (htp : tpV w0 h = nI g) (hn : ¬ isTm g ∧ ¬ isPl g) (nb : ¬ isTm (b p) ∧ ¬ isPl (b p)) (n93 : ¬ b p = 93) : Call E m_X12_stays 3 0 0 [vR MO] h (fun r h' => r = some (vI (nI 0)) ∧ ∃ c', c ≤ c' ∧ RS b n p c' w0 o h' ∧ YK c w0 h h' ∧ SRh h' c0 c' false A) := by
  have hb1 := hb.1
  have h256 := hb.2.1 p
  have hi := hr.i
  have hp4 : p ≤ 400 := by omega
  refine Call.enter hok (by decide) (Nat.le_of_ble_eq_true rfl) ?_
  show G E m_X12_stays 3 0 0 _ h 0 [some (vR MO), none] [] h 0 0
  refine g_aload_n (pc' := 1) dX12_stays_0 rfl rfl ?_
  refine g_invV (pc' := 4) (cm_here hok hb hr.1 hr.2.1 hp4) dX12_stays_1 rfl rfl ck_13 rfl ml_X12_288 im_X12_here sl_X12_here in_X12 co_X12_here pd_X12_here rfl (by omega) (by decide) ⟨by decide, by decide⟩ (Nat.le_of_ble_eq_true rfl) ?_
  rintro _ _ ⟨rfl, rfl⟩ -
  refine g_istore_n (pc' := 5) dX12_stays_4 rfl (by decide) rfl ?_
  try simp only [List.set]
  refine g_iload_n (pc' := 6) dX12_stays_5 rfl rfl ?_
  refine g_invS (pc' := 9) (cm_isTm hok (hb.2.1 p)) dX12_stays_6 rfl ml_X12_308 st_X12_isTimes in_X12 co_X12_isTimes pd_X12_isTimes rfl (by omega) (by decide) ⟨by decide, by decide⟩ (Nat.le_of_ble_eq_true rfl) ?_
  rintro _ _ ⟨rfl, rfl⟩ -
  refine g_ifB_ne (tgt := 19) (pc' := 12) dX12_stays_9 rfl (by decide) (fun c9 => ?_) (fun c9 => ?_)
  · exact absurd c9 nb.1
  ·
    refine g_iload_n (pc' := 13) dX12_stays_12 rfl rfl ?_
    refine g_invS (pc' := 16) (cm_isPl hok (hb.2.1 p)) dX12_stays_13 rfl ml_X12_311 st_X12_isPlus in_X12 co_X12_isPlus pd_X12_isPlus rfl (by omega) (by decide) ⟨by decide, by decide⟩ (Nat.le_of_ble_eq_true rfl) ?_
    rintro _ _ ⟨rfl, rfl⟩ -
    refine g_ifB_eq (tgt := 34) (pc' := 19) dX12_stays_16 rfl (by decide) (fun c16 => ?_) (fun c16 => ?_)
    ·
      refine g_aload_n (pc' := 35) dX12_stays_34 rfl rfl ?_
      refine g_iconstN (n := 1) (pc' := 36) dX12_stays_35 rfl ?_
      refine g_invV (pc' := 39) (cm_sums1 hok hb hr hq hg htp hn) dX12_stays_36 rfl rfl ck_13 rfl ml_X12_326 im_X12_sums sl_X12_sums in_X12 co_X12_sums pd_X12_sums rfl (by omega) (by decide) ⟨by decide, by decide⟩ (Nat.le_of_ble_eq_true rfl) ?_
      rintro _ h1 ⟨rfl, c1, hc1, hr1, k1, sr1, e51⟩ -
      have hi1 := hr1.i
      refine g_iload_n (pc' := 40) dX12_stays_39 rfl rfl ?_
      refine g_bipushN (n := 93) (pc' := 42) dX12_stays_40 rfl (by decide) ?_
      refine g_icmp_eqN (tgt := 47) (pc' := 45) dX12_stays_42 rfl (by decide) (by omega) (by omega) (fun c42 => ?_) (fun c42 => ?_)
      · exact absurd c42 n93
      ·
        refine g_iconstN (n := 0) (pc' := 46) dX12_stays_45 rfl ?_
        refine g_zret dX12_stays_46 rfl (by rfl) (by decide) (by decide) ?_
        exact ⟨rfl, c1, hc1, hr1, k1, sr1⟩
    · exact absurd c16 nb.2
set_option maxRecDepth 4000 in
theorem st_bad {E : En} (hok : EOK E) {h : Hp} {b : Nat → Nat} {n p c c0 w w0 o g : Nat} {A : Mng} (hb : HB b n) (hr : RS b n p c w o h) (hq : QE h c0 c w0 w A) (hg : g < 256) (htp : tpV w0 h = nI g) (hn : ¬ isTm g ∧ ¬ isPl g) (nb : ¬ isTm (b p) ∧ ¬ isPl (b p)) (e93 : b p = 93) (n91 : ¬ g = 91) : Call E m_X12_stays 3 0 0 [vR MO] h (fun r h' => r = some (vI (nI 0)) ∧ YK c w0 h h' ∧ h'.1 MO 45 = bdv 1 p) := by
  have hb1 := hb.1
  have h256 := hb.2.1 p
  have hi := hr.i
  have hp4 : p ≤ 400 := by omega
  refine Call.enter hok (by decide) (Nat.le_of_ble_eq_true rfl) ?_
  show G E m_X12_stays 3 0 0 _ h 0 [some (vR MO), none] [] h 0 0
  refine g_aload_n (pc' := 1) dX12_stays_0 rfl rfl ?_
  refine g_invV (pc' := 4) (cm_here hok hb hr.1 hr.2.1 hp4) dX12_stays_1 rfl rfl ck_13 rfl ml_X12_288 im_X12_here sl_X12_here in_X12 co_X12_here pd_X12_here rfl (by omega) (by decide) ⟨by decide, by decide⟩ (Nat.le_of_ble_eq_true rfl) ?_
  rintro _ _ ⟨rfl, rfl⟩ -
  refine g_istore_n (pc' := 5) dX12_stays_4 rfl (by decide) rfl ?_
  try simp only [List.set]
  refine g_iload_n (pc' := 6) dX12_stays_5 rfl rfl ?_
  refine g_invS (pc' := 9) (cm_isTm hok (hb.2.1 p)) dX12_stays_6 rfl ml_X12_308 st_X12_isTimes in_X12 co_X12_isTimes pd_X12_isTimes rfl (by omega) (by decide) ⟨by decide, by decide⟩ (Nat.le_of_ble_eq_true rfl) ?_
  rintro _ _ ⟨rfl, rfl⟩ -
  refine g_ifB_ne (tgt := 19) (pc' := 12) dX12_stays_9 rfl (by decide) (fun c9 => ?_) (fun c9 => ?_)
  · exact absurd c9 nb.1
  ·
    refine g_iload_n (pc' := 13) dX12_stays_12 rfl rfl ?_
    refine g_invS (pc' := 16) (cm_isPl hok (hb.2.1 p)) dX12_stays_13 rfl ml_X12_311 st_X12_isPlus in_X12 co_X12_isPlus pd_X12_isPlus rfl (by omega) (by decide) ⟨by decide, by decide⟩ (Nat.le_of_ble_eq_true rfl) ?_
    rintro _ _ ⟨rfl, rfl⟩ -
    refine g_ifB_eq (tgt := 34) (pc' := 19) dX12_stays_16 rfl (by decide) (fun c16 => ?_) (fun c16 => ?_)
    ·
      refine g_aload_n (pc' := 35) dX12_stays_34 rfl rfl ?_
      refine g_iconstN (n := 1) (pc' := 36) dX12_stays_35 rfl ?_
      refine g_invV (pc' := 39) (cm_sums1 hok hb hr hq hg htp hn) dX12_stays_36 rfl rfl ck_13 rfl ml_X12_326 im_X12_sums sl_X12_sums in_X12 co_X12_sums pd_X12_sums rfl (by omega) (by decide) ⟨by decide, by decide⟩ (Nat.le_of_ble_eq_true rfl) ?_
      rintro _ h1 ⟨rfl, c1, hc1, hr1, k1, sr1, e51⟩ -
      have hi1 := hr1.i
      refine g_iload_n (pc' := 40) dX12_stays_39 rfl rfl ?_
      refine g_bipushN (n := 93) (pc' := 42) dX12_stays_40 rfl (by decide) ?_
      refine g_icmp_eqN (tgt := 47) (pc' := 45) dX12_stays_42 rfl (by decide) (by omega) (by omega) (fun c42 => ?_) (fun c42 => ?_)
      ·
        refine g_aload_n (pc' := 48) dX12_stays_47 rfl rfl ?_
        refine g_invV (pc' := 51) (cm_top hok hr1.s hr1.2.2.2.1 (by omega) ((tpV_k k1).trans htp)) dX12_stays_48 rfl rfl ck_13 rfl ml_X12_305 im_X12_top sl_X12_top in_X12 co_X12_top pd_X12_top rfl (by omega) (by decide) ⟨by decide, by decide⟩ (Nat.le_of_ble_eq_true rfl) ?_
        rintro _ _ ⟨rfl, rfl⟩ -
        refine g_bipushN (n := 91) (pc' := 53) dX12_stays_51 rfl (by decide) ?_
        refine g_icmp_eqN (tgt := 67) (pc' := 56) dX12_stays_53 rfl (by decide) (by omega) (by omega) (fun c53 => ?_) (fun c53 => ?_)
        · exact absurd c53 n91
        ·
          refine g_aload_n (pc' := 57) dX12_stays_56 rfl rfl ?_
          refine g_iconstN (n := 1) (pc' := 58) dX12_stays_57 rfl ?_
          refine g_aload_n (pc' := 59) dX12_stays_58 rfl rfl ?_
          refine g_getIv (v := nI (p)) (pc' := 62) (k := 43) dX12_stays_59 rfl rfl ck_13 (by decide) fl_X12_262 rfl (hr1.2.1) ?_
          refine g_invV (pc' := 65) (cm_wrong hok hr1.g 1 p) dX12_stays_62 rfl rfl ck_13 rfl ml_X12_284 im_X12_wrongs sl_X12_wrongs in_X12 co_X12_wrongs pd_X12_wrongs rfl (by omega) (by decide) ⟨by decide, by decide⟩ (Nat.le_of_ble_eq_true rfl) ?_
          rintro _ _ ⟨rfl, rfl⟩ -
          refine g_iconstN (n := 0) (pc' := 66) dX12_stays_65 rfl ?_
          refine g_zret dX12_stays_66 rfl (by rfl) (by decide) (by decide) ?_
          exact ⟨rfl, k1.f rfl, rfl⟩
      · exact absurd e93 c42
    · exact absurd c16 nb.2
set_option maxRecDepth 4000 in
theorem st_close {E : En} (hok : EOK E) {h : Hp} {b : Nat → Nat} {n p c c0 w w0 o g : Nat} {A : Mng} (hb : HB b n) (hr : RS b n p c w o h) (hq : QE h c0 c w0 w A) (hg : g < 256) (htp : tpV w0 h = nI g) (hn : ¬ isTm g ∧ ¬ isPl g) (nb : ¬ isTm (b p) ∧ ¬ isPl (b p)) (e93 : b p = 93) (e91 : g = 91) {w1 o1 : Nat} (ew : w0 = w1 + 1) (eo : o = o1 + 1) : Call E m_X12_stays 3 0 0 [vR MO] h (fun r h' => r = some (vI (nI 1)) ∧ ∃ c', c ≤ c' ∧ RS b n (p + 1) c' w1 o1 h' ∧ YK c w1 h h' ∧ SRh h' c0 c' false A ∧ h'.1 MO 51 = nI 1) := by
  have hb1 := hb.1
  have h256 := hb.2.1 p
  have hi := hr.i
  have hp4 : p ≤ 400 := by omega
  refine Call.enter hok (by decide) (Nat.le_of_ble_eq_true rfl) ?_
  show G E m_X12_stays 3 0 0 _ h 0 [some (vR MO), none] [] h 0 0
  refine g_aload_n (pc' := 1) dX12_stays_0 rfl rfl ?_
  refine g_invV (pc' := 4) (cm_here hok hb hr.1 hr.2.1 hp4) dX12_stays_1 rfl rfl ck_13 rfl ml_X12_288 im_X12_here sl_X12_here in_X12 co_X12_here pd_X12_here rfl (by omega) (by decide) ⟨by decide, by decide⟩ (Nat.le_of_ble_eq_true rfl) ?_
  rintro _ _ ⟨rfl, rfl⟩ -
  refine g_istore_n (pc' := 5) dX12_stays_4 rfl (by decide) rfl ?_
  try simp only [List.set]
  refine g_iload_n (pc' := 6) dX12_stays_5 rfl rfl ?_
  refine g_invS (pc' := 9) (cm_isTm hok (hb.2.1 p)) dX12_stays_6 rfl ml_X12_308 st_X12_isTimes in_X12 co_X12_isTimes pd_X12_isTimes rfl (by omega) (by decide) ⟨by decide, by decide⟩ (Nat.le_of_ble_eq_true rfl) ?_
  rintro _ _ ⟨rfl, rfl⟩ -
  refine g_ifB_ne (tgt := 19) (pc' := 12) dX12_stays_9 rfl (by decide) (fun c9 => ?_) (fun c9 => ?_)
  · exact absurd c9 nb.1
  ·
    refine g_iload_n (pc' := 13) dX12_stays_12 rfl rfl ?_
    refine g_invS (pc' := 16) (cm_isPl hok (hb.2.1 p)) dX12_stays_13 rfl ml_X12_311 st_X12_isPlus in_X12 co_X12_isPlus pd_X12_isPlus rfl (by omega) (by decide) ⟨by decide, by decide⟩ (Nat.le_of_ble_eq_true rfl) ?_
    rintro _ _ ⟨rfl, rfl⟩ -
    refine g_ifB_eq (tgt := 34) (pc' := 19) dX12_stays_16 rfl (by decide) (fun c16 => ?_) (fun c16 => ?_)
    ·
      refine g_aload_n (pc' := 35) dX12_stays_34 rfl rfl ?_
      refine g_iconstN (n := 1) (pc' := 36) dX12_stays_35 rfl ?_
      refine g_invV (pc' := 39) (cm_sums1 hok hb hr hq hg htp hn) dX12_stays_36 rfl rfl ck_13 rfl ml_X12_326 im_X12_sums sl_X12_sums in_X12 co_X12_sums pd_X12_sums rfl (by omega) (by decide) ⟨by decide, by decide⟩ (Nat.le_of_ble_eq_true rfl) ?_
      rintro _ h1 ⟨rfl, c1, hc1, hr1, k1, sr1, e51⟩ -
      have hi1 := hr1.i
      refine g_iload_n (pc' := 40) dX12_stays_39 rfl rfl ?_
      refine g_bipushN (n := 93) (pc' := 42) dX12_stays_40 rfl (by decide) ?_
      refine g_icmp_eqN (tgt := 47) (pc' := 45) dX12_stays_42 rfl (by decide) (by omega) (by omega) (fun c42 => ?_) (fun c42 => ?_)
      ·
        refine g_aload_n (pc' := 48) dX12_stays_47 rfl rfl ?_
        refine g_invV (pc' := 51) (cm_top hok hr1.s hr1.2.2.2.1 (by omega) ((tpV_k k1).trans htp)) dX12_stays_48 rfl rfl ck_13 rfl ml_X12_305 im_X12_top sl_X12_top in_X12 co_X12_top pd_X12_top rfl (by omega) (by decide) ⟨by decide, by decide⟩ (Nat.le_of_ble_eq_true rfl) ?_
        rintro _ _ ⟨rfl, rfl⟩ -
        refine g_bipushN (n := 91) (pc' := 53) dX12_stays_51 rfl (by decide) ?_
        refine g_icmp_eqN (tgt := 67) (pc' := 56) dX12_stays_53 rfl (by decide) (by omega) (by omega) (fun c53 => ?_) (fun c53 => ?_)
        ·
          subst ew
          subst eo
          refine g_aload_n (pc' := 68) dX12_stays_67 rfl rfl ?_
          refine g_dup (pc' := 69) dX12_stays_68 rfl rfl ?_
          refine g_getIv (v := nI (w1 + 1)) (pc' := 72) (k := 49) dX12_stays_69 rfl rfl ck_13 (by decide) fl_X12_278 rfl (hr1.2.2.2.1) ?_
          refine g_iconstN (n := 1) (pc' := 73) dX12_stays_72 rfl ?_
          refine g_isubN (pc' := 74) dX12_stays_73 rfl (by omega) ?_
          refine g_putI (pc' := 77) (k := 49) dX12_stays_74 rfl rfl ck_13 (by decide) fl_X12_278 rfl rfl rfl rfl ?_
          refine g_aload_n (pc' := 78) dX12_stays_77 rfl rfl ?_
          refine g_dup (pc' := 79) dX12_stays_78 rfl rfl ?_
          refine g_getIv (v := nI (o1 + 1)) (pc' := 82) (k := 48) dX12_stays_79 rfl rfl ck_13 (by decide) fl_X12_281 rfl (hr1.2.2.2.2.1) ?_
          refine g_iconstN (n := 1) (pc' := 83) dX12_stays_82 rfl ?_
          refine g_isubN (pc' := 84) dX12_stays_83 rfl (by omega) ?_
          refine g_putI (pc' := 87) (k := 48) dX12_stays_84 rfl rfl ck_13 (by decide) fl_X12_281 rfl rfl rfl rfl ?_
          refine g_aload_n (pc' := 88) dX12_stays_87 rfl rfl ?_
          refine g_dup (pc' := 89) dX12_stays_88 rfl rfl ?_
          refine g_getIv (v := nI (p)) (pc' := 92) (k := 43) dX12_stays_89 rfl rfl ck_13 (by decide) fl_X12_262 rfl (hr1.2.1) ?_
          refine g_iconstN (n := 1) (pc' := 93) dX12_stays_92 rfl ?_
          refine g_iaddN (pc' := 94) dX12_stays_93 rfl ?_
          refine g_putI (pc' := 97) (k := 43) dX12_stays_94 rfl rfl ck_13 (by decide) fl_X12_262 rfl rfl rfl rfl ?_
          refine g_aload_n (pc' := 98) dX12_stays_97 rfl rfl ?_
          refine g_iconstN (n := 1) (pc' := 99) dX12_stays_98 rfl ?_
          refine g_putI (pc' := 102) (k := 51) dX12_stays_99 rfl rfl ck_13 (by decide) fl_X12_330 rfl rfl (by rfl) (by rfl) ?_
          refine g_iconstN (n := 1) (pc' := 103) dX12_stays_102 rfl ?_
          refine g_zret dX12_stays_103 rfl (by rfl) (by decide) (by decide) ?_
          have hlt := hb.lt (p := p) (by omega)
          exact ⟨rfl, c1, hc1, ⟨hr1.1.k (((((YK.rf 0 0 h1).f rfl).f rfl).f rfl).f rfl), rfl, hr1.2.2.1, rfl, rfl, hr1.g, by omega, by omega⟩, (((((k1.le (Nat.le_refl c) (Nat.le_succ w1)).f rfl).f rfl).f rfl).f rfl), sr1, rfl⟩
        · exact absurd e91 c53
      · exact absurd e93 c42
    · exact absurd c16 nb.2
noncomputable def atR (b : Nat → Nat) (p : Nat) (A : Mng) : Rs := cif (dgt (b p)) (nuR b p A) (cif (isLt (b p)) (0, p + 1, fL (b p)) (1, p, A))
def AT (b : Nat → Nat) (n p c w o : Nat) (h : Hp) : Prop := ∀ A, ((atR b p A).1 = 0 → RS b n (atR b p A).2.1 (c + 1) w o h ∧ SRh h c (c + 1) false (atR b p A).2.2) ∧ (¬ (atR b p A).1 = 0 → h.1 MO 45 = bdv (atR b p A).1 (atR b p A).2.1)
/-- behind factor(): it took j brackets, then a number or a letter stood there, or all is wrong -/
def FA (b : Nat → Nat) (n p c w o : Nat) (h : Hp) : Prop := ∃ j, (∀ i, i < j → b (p + i) = 91 ∧ h.1 (152, 0) (w + i) = nI 91) ∧ o + j ≤ 6 ∧ ((o + j = 6 ∧ b (p + j) = 91 ∧ h.1 MO 45 = bdv 5 (p + j)) ∨ (b (p + j) ≠ 91 ∧ AT b n (p + j) c (w + j) (o + j) h))
theorem FA.cons {b : Nat → Nat} {n p c w o : Nat} {h : Hp} (e : b p = 91) (es : h.1 (152, 0) w = nI 91) (q : FA b n (p + 1) c (w + 1) (o + 1) h) : FA b n p c w o h := by
  obtain ⟨j, q1, q2, q3⟩ := q
  refine ⟨j + 1, fun i hi => ?_, by omega, ?_⟩
  · rcases i with _ | i
    · exact ⟨e, es⟩
    · have := q1 i (by omega)
      rw [show p + 1 + i = p + (i + 1) by omega, show w + 1 + i = w + (i + 1) by omega] at this
      exact this
  · rw [show p + 1 + j = p + (j + 1) by omega, show w + 1 + j = w + (j + 1) by omega, show o + 1 + j = o + (j + 1) by omega] at q3
    exact q3
theorem FA.opn {b : Nat → Nat} {n p c w o : Nat} {h : Hp} (q : FA b n p c w o h) (e : b p = 91) (ho : o < 6) : h.1 (152, 0) w = nI 91 ∧ FA b n (p + 1) c (w + 1) (o + 1) h := by
  obtain ⟨j, q1, q2, q3⟩ := q
  rcases j with _ | j
  · rcases q3 with ⟨z, _⟩ | ⟨z, _⟩
    · omega
    · exact absurd e z
  · refine ⟨(q1 0 (by omega)).2, j, fun i hi => ?_, by omega, ?_⟩
    · have := q1 (i + 1) (by omega)
      rw [show p + 1 + i = p + (i + 1) by omega, show w + 1 + i = w + (i + 1) by omega]
      exact this
    · rw [show p + 1 + j = p + (j + 1) by omega, show w + 1 + j = w + (j + 1) by omega, show o + 1 + j = o + (j + 1) by omega]
      exact q3
theorem FA.full {b : Nat → Nat} {n p c w o : Nat} {h : Hp} (q : FA b n p c w o h) (e : b p = 91) (ho : 6 ≤ o) : h.1 MO 45 = bdv 5 p := by
  obtain ⟨j, q1, q2, q3⟩ := q
  have : j = 0 := by omega
  subst this
  rcases q3 with ⟨_, _, z⟩ | ⟨z, _⟩
  · exact z
  · exact absurd e z
theorem FA.atom {b : Nat → Nat} {n p c w o : Nat} {h : Hp} (q : FA b n p c w o h) (e : ¬ b p = 91) : AT b n p c w o h := by
  obtain ⟨j, q1, q2, q3⟩ := q
  rcases j with _ | j
  · rcases q3 with ⟨_, z, _⟩ | ⟨_, z⟩
    · exact absurd z e
    · exact z
  · exact absurd (q1 0 (by omega)).1 e
set_option maxRecDepth 4000 in
theorem cm_emitB {E : En} (hok : EOK E) {h : Hp} (hg : ¬ h.1 MO 45 = 0) (x a : Int32) : Fm E m_X12_emit 1 [vR MO, vI x, vI a] h none h := by
  refine Call.enter hok (by decide) (Nat.le_of_ble_eq_true rfl) ?_
  show G E m_X12_emit 1 0 0 _ h 0 [some (vR MO), some (vI x), some (vI a)] [] h 0 0
  refine g_aload_n (pc' := 1) dX12_emit_0 rfl rfl ?_
  refine g_invV (pc' := 4) (cm_bad hok hg) dX12_emit_1 rfl rfl ck_13 rfl ml_X12_271 im_X12_isGood sl_X12_isGood in_X12 co_X12_isGood pd_X12_isGood rfl (by omega) (by decide) ⟨by decide, by decide⟩ (Nat.le_of_ble_eq_true rfl) ?_
  rintro _ _ ⟨rfl, rfl⟩ -
  refine g_if_neN (tgt := 8) (pc' := 7) dX12_emit_4 rfl (by decide) (by decide) (fun q => False.elim (by revert q; decide)) (fun _ => ?_)
  refine g_vret dX12_emit_7 rfl (by decide) (by decide) ?_
  exact ⟨rfl, rfl⟩
set_option maxRecDepth 4000 in
theorem fa_loop {E : En} (hok : EOK E) {b : Nat → Nat} {n c : Nat} {h0 : Hp} (hb : HB b n) {Q : Option V → Hp → Prop} : ∀ (m p w o : Nat) (h h1 : Hp), n - p ≤ m → o ≤ 6 → YK c w h h1 → RS b n p c w o h1 → (∀ h2, YK c w h h2 → FA b n p c w o h2 → Q none h2) → G E m_X12_factor 3 0 0 Q h0 0 [some (vR MO)] [] h1 0 0 := by
  have hb1 := hb.1
  intro m
  induction m with
  | zero =>
    intro p w o h h1 hm ho hk hr hQ
    have hi := hr.i
    have hp4 : p ≤ 400 := by omega
    have h256 := hb.2.1 p
    refine g_aload_n (pc' := 1) dX12_factor_0 rfl rfl ?_
    refine g_invV (pc' := 4) (cm_good hok hr.g) dX12_factor_1 rfl rfl ck_13 rfl ml_X12_271 im_X12_isGood sl_X12_isGood in_X12 co_X12_isGood pd_X12_isGood rfl (by omega) (by decide) ⟨by decide, by decide⟩ (Nat.le_of_ble_eq_true rfl) ?_
    rintro _ _ ⟨rfl, rfl⟩ -
    refine g_if_eqN (tgt := 23) (pc' := 7) dX12_factor_4 rfl (by decide) (by decide) (fun q => False.elim (by revert q; decide)) (fun _ => ?_)
    refine g_aload_n (pc' := 8) dX12_factor_7 rfl rfl ?_
    refine g_invV (pc' := 11) (cm_here hok hb hr.1 hr.2.1 hp4) dX12_factor_8 rfl rfl ck_13 rfl ml_X12_288 im_X12_here sl_X12_here in_X12 co_X12_here pd_X12_here rfl (by omega) (by decide) ⟨by decide, by decide⟩ (Nat.le_of_ble_eq_true rfl) ?_
    rintro _ _ ⟨rfl, rfl⟩ -
    refine g_bipushN (n := 91) (pc' := 13) dX12_factor_11 rfl (by decide) ?_
    refine g_icmp_neN (tgt := 23) (pc' := 16) dX12_factor_13 rfl (by decide) (by omega) (by omega) (fun c13 => ?_) (fun c13 => ?_)
    ·
      have n91 : b (p + 0) ≠ 91 := c13
      refine g_aload_n (pc' := 24) dX12_factor_23 rfl rfl ?_
      refine g_invV (pc' := 27) (cm_good hok hr.g) dX12_factor_24 rfl rfl ck_13 rfl ml_X12_271 im_X12_isGood sl_X12_isGood in_X12 co_X12_isGood pd_X12_isGood rfl (by omega) (by decide) ⟨by decide, by decide⟩ (Nat.le_of_ble_eq_true rfl) ?_
      rintro _ _ ⟨rfl, rfl⟩ -
      refine g_if_neN (tgt := 31) (pc' := 30) dX12_factor_27 rfl (by decide) (by decide) (fun _ => ?_) (fun q => False.elim (by revert q; decide))
      refine g_aload_n (pc' := 32) dX12_factor_31 rfl rfl ?_
      refine g_invV (pc' := 35) (cm_sees hok hb hr.1 hr.2.1 hp4) dX12_factor_32 rfl rfl ck_13 rfl ml_X12_299 im_X12_seesDigit sl_X12_seesDigit in_X12 co_X12_seesDigit pd_X12_seesDigit rfl (by omega) (by decide) ⟨by decide, by decide⟩ (Nat.le_of_ble_eq_true rfl) ?_
      rintro _ _ ⟨rfl, rfl⟩ -
      refine g_ifB_eq (tgt := 50) (pc' := 38) dX12_factor_35 rfl (by decide) (fun c35 => ?_) (fun c35 => ?_)
      ·
        refine g_aload_n (pc' := 51) dX12_factor_50 rfl rfl ?_
        refine g_invV (pc' := 54) (cm_here hok hb hr.1 hr.2.1 hp4) dX12_factor_51 rfl rfl ck_13 rfl ml_X12_288 im_X12_here sl_X12_here in_X12 co_X12_here pd_X12_here rfl (by omega) (by decide) ⟨by decide, by decide⟩ (Nat.le_of_ble_eq_true rfl) ?_
        rintro _ _ ⟨rfl, rfl⟩ -
        refine g_invS (pc' := 57) (cm_isLt hok (hb.2.1 p)) dX12_factor_54 rfl ml_X12_323 st_X12_isValue in_X12 co_X12_isValue pd_X12_isValue rfl (by omega) (by decide) ⟨by decide, by decide⟩ (Nat.le_of_ble_eq_true rfl) ?_
        rintro _ _ ⟨rfl, rfl⟩ -
        refine g_ifB_eq (tgt := 82) (pc' := 60) dX12_factor_57 rfl (by decide) (fun c57 => ?_) (fun c57 => ?_)
        ·
          refine g_aload_n (pc' := 83) dX12_factor_82 rfl rfl ?_
          refine g_iconstN (n := 1) (pc' := 84) dX12_factor_83 rfl ?_
          refine g_aload_n (pc' := 85) dX12_factor_84 rfl rfl ?_
          refine g_getIv (v := nI (p)) (pc' := 88) (k := 43) dX12_factor_85 rfl rfl ck_13 (by decide) fl_X12_262 rfl (hr.2.1) ?_
          refine g_invV (pc' := 91) (cm_wrong hok hr.g 1 p) dX12_factor_88 rfl rfl ck_13 rfl ml_X12_284 im_X12_wrongs sl_X12_wrongs in_X12 co_X12_wrongs pd_X12_wrongs rfl (by omega) (by decide) ⟨by decide, by decide⟩ (Nat.le_of_ble_eq_true rfl) ?_
          rintro _ _ ⟨rfl, rfl⟩ -
          refine g_vret dX12_factor_91 rfl (by decide) (by decide) ?_
          refine hQ _ (hk.tr ((YK.rf c w h1).f rfl) (Nat.le_refl c) (Nat.le_refl w)) ⟨0, fun i hi => absurd hi (Nat.not_lt_zero i), ho, Or.inr ⟨n91, fun A => ?_⟩⟩
          have ea : atR b (p + 0) A = (1, p, A) := (cif_f c35).trans (cif_f c57)
          rw [ea]
          exact ⟨fun z => absurd (show (1 : Nat) = 0 from z) (by decide), fun _ => wI_same _ _ _ _⟩
        ·
          have hltL := hb.lt (isLt_ne c57)
          refine g_aload_n (pc' := 61) dX12_factor_60 rfl rfl ?_
          refine g_iconstN (n := 1) (pc' := 62) dX12_factor_61 rfl ?_
          refine g_aload_n (pc' := 63) dX12_factor_62 rfl rfl ?_
          refine g_invV (pc' := 66) (cm_here hok hb hr.1 hr.2.1 hp4) dX12_factor_63 rfl rfl ck_13 rfl ml_X12_288 im_X12_here sl_X12_here in_X12 co_X12_here pd_X12_here rfl (by omega) (by decide) ⟨by decide, by decide⟩ (Nat.le_of_ble_eq_true rfl) ?_
          rintro _ _ ⟨rfl, rfl⟩ -
          refine g_invV (pc' := 69) (cm_emit (c := c) hok hr.s hr.g hr.2.2.1 (by omega) _ _) dX12_factor_66 rfl rfl ck_13 rfl ml_X12_314 im_X12_emit sl_X12_emit in_X12 co_X12_emit pd_X12_emit rfl (by omega) (by decide) ⟨by decide, by decide⟩ (Nat.le_of_ble_eq_true rfl) ?_
          rintro _ _ ⟨rfl, rfl⟩ -
          refine g_aload_n (pc' := 70) dX12_factor_69 rfl rfl ?_
          refine g_dup (pc' := 71) dX12_factor_70 rfl rfl ?_
          refine g_getIv (v := nI (p)) (pc' := 74) (k := 43) dX12_factor_71 rfl rfl ck_13 (by decide) fl_X12_262 rfl (hr.2.1) ?_
          refine g_iconstN (n := 1) (pc' := 75) dX12_factor_74 rfl ?_
          refine g_iaddN (pc' := 76) dX12_factor_75 rfl ?_
          refine g_putI (pc' := 79) (k := 43) dX12_factor_76 rfl rfl ck_13 (by decide) fl_X12_262 rfl rfl rfl rfl ?_
          refine g_goto (tgt := 91) dX12_factor_79 (by decide) ?_
          refine g_vret dX12_factor_91 rfl (by decide) (by decide) ?_
          refine hQ _ (hk.tr (((YK.rf c w h1).em (Nat.le_refl c)).f rfl) (Nat.le_refl c) (Nat.le_refl w)) ⟨0, fun i hi => absurd hi (Nat.not_lt_zero i), ho, Or.inr ⟨n91, fun A => ?_⟩⟩
          have ea : atR b (p + 0) A = (0, p + 1, fL (b p)) := (cif_f c35).trans (cif_t c57)
          rw [ea]
          have hlt := hb.lt (isLt_ne c57)
          exact ⟨fun _ => ⟨hr.em (q := p + 1) (Nat.lt_succ_self p) (show p + 1 ≤ n by omega), SR.let (em_c (x := nI 1) (a := nI (b p))).1 c57 (em_c (x := nI 1) (a := nI (b p))).2⟩, fun z => absurd rfl z⟩
      ·
        refine g_aload_n (pc' := 39) dX12_factor_38 rfl rfl ?_
        refine g_iconstN (n := 0) (pc' := 40) dX12_factor_39 rfl ?_
        refine g_aload_n (pc' := 41) dX12_factor_40 rfl rfl ?_
        refine g_invV (pc' := 44) (cm_reads hok hb hr.1 hr.2.1 hr.g c35) dX12_factor_41 rfl rfl ck_13 rfl ml_X12_320 im_X12_reads sl_X12_reads in_X12 co_X12_reads pd_X12_reads rfl (by omega) (by decide) ⟨by decide, by decide⟩ (Nat.le_of_ble_eq_true rfl) ?_
        rintro r2 h2 rq -
        have np := numS_p hb 5 p 0 hi.2
        have npos := numS_pos hb hi.2 c35
        rcases Classical.em (dgt (b (numS b 5 p 0).1)) with e2 | e2
        ·
          obtain ⟨⟨v2, rfl⟩, rfl⟩ := rq.2 e2
          refine g_invV (pc' := 47) (cm_emitB hok (by rw [wI_f (by decide), wI_same]; exact bdv_ne (by decide) (by decide) (by omega)) _ _) dX12_factor_44 rfl rfl ck_13 rfl ml_X12_314 im_X12_emit sl_X12_emit in_X12 co_X12_emit pd_X12_emit rfl (by omega) (by decide) ⟨by decide, by decide⟩ (Nat.le_of_ble_eq_true rfl) ?_
          rintro _ _ ⟨rfl, rfl⟩ -
          refine g_goto (tgt := 91) dX12_factor_47 (by decide) ?_
          refine g_vret dX12_factor_91 rfl (by decide) (by decide) ?_
          refine hQ _ (hk.tr (((YK.rf c w h1).f rfl).f rfl) (Nat.le_refl c) (Nat.le_refl w)) ⟨0, fun i hi => absurd hi (Nat.not_lt_zero i), ho, Or.inr ⟨n91, fun A => ?_⟩⟩
          have ea : atR b (p + 0) A = (2, (numS b 5 p 0).1, A) := (cif_t c35).trans (cif_t e2)
          rw [ea]
          exact ⟨fun z => absurd (show (2 : Nat) = 0 from z) (by decide), fun _ => by rw [wI_f (by decide), wI_same]⟩
        ·
          obtain ⟨rfl, rfl⟩ := rq.1 e2
          refine g_invV (pc' := 47) (cm_emit (c := c) (h := wI h1 MO 43 (nI (numS b 5 p 0).1)) hok hr.s hr.g hr.2.2.1 (by omega) _ _) dX12_factor_44 rfl rfl ck_13 rfl ml_X12_314 im_X12_emit sl_X12_emit in_X12 co_X12_emit pd_X12_emit rfl (by omega) (by decide) ⟨by decide, by decide⟩ (Nat.le_of_ble_eq_true rfl) ?_
          rintro _ _ ⟨rfl, rfl⟩ -
          refine g_goto (tgt := 91) dX12_factor_47 (by decide) ?_
          refine g_vret dX12_factor_91 rfl (by decide) (by decide) ?_
          refine hQ _ (hk.tr (((YK.rf c w h1).f rfl).em (Nat.le_refl c)) (Nat.le_refl c) (Nat.le_refl w)) ⟨0, fun i hi => absurd hi (Nat.not_lt_zero i), ho, Or.inr ⟨n91, fun A => ?_⟩⟩
          have ea : atR b (p + 0) A = (0, (numS b 5 p 0).1, fN (nI (numS b 5 p 0).2)) := (cif_t c35).trans (cif_f e2)
          rw [ea]
          refine ⟨fun _ => ⟨⟨hr.1.k (((YK.rf 0 0 h1).f rfl).em (Nat.zero_le c)), rfl, rfl, hr.2.2.2.1, hr.2.2.2.2.1, hr.g, ?_, np.2.1⟩, ?_⟩, fun z => absurd rfl z⟩
          · show c + 1 + w ≤ (numS b 5 p 0).1
            omega
          · have q := SR.num (c := (emH c (nI 0) (nI (numS b 5 p 0).2) (wI h1 MO 43 (nI (numS b 5 p 0).1))).1 (141, 0)) (a := (emH c (nI 0) (nI (numS b 5 p 0).2) (wI h1 MO 43 (nI (numS b 5 p 0).1))).1 (142, 0)) (em_c (c := c) (x := nI 0) (a := nI (numS b 5 p 0).2)).1
            rw [em_c.2] at q
            exact q
    · exact absurd (bz hb (show ¬ p < n by omega)) (by omega)
  | succ m ih =>
    intro p w o h h1 hm ho hk hr hQ
    have hi := hr.i
    have hp4 : p ≤ 400 := by omega
    have h256 := hb.2.1 p
    refine g_aload_n (pc' := 1) dX12_factor_0 rfl rfl ?_
    refine g_invV (pc' := 4) (cm_good hok hr.g) dX12_factor_1 rfl rfl ck_13 rfl ml_X12_271 im_X12_isGood sl_X12_isGood in_X12 co_X12_isGood pd_X12_isGood rfl (by omega) (by decide) ⟨by decide, by decide⟩ (Nat.le_of_ble_eq_true rfl) ?_
    rintro _ _ ⟨rfl, rfl⟩ -
    refine g_if_eqN (tgt := 23) (pc' := 7) dX12_factor_4 rfl (by decide) (by decide) (fun q => False.elim (by revert q; decide)) (fun _ => ?_)
    refine g_aload_n (pc' := 8) dX12_factor_7 rfl rfl ?_
    refine g_invV (pc' := 11) (cm_here hok hb hr.1 hr.2.1 hp4) dX12_factor_8 rfl rfl ck_13 rfl ml_X12_288 im_X12_here sl_X12_here in_X12 co_X12_here pd_X12_here rfl (by omega) (by decide) ⟨by decide, by decide⟩ (Nat.le_of_ble_eq_true rfl) ?_
    rintro _ _ ⟨rfl, rfl⟩ -
    refine g_bipushN (n := 91) (pc' := 13) dX12_factor_11 rfl (by decide) ?_
    refine g_icmp_neN (tgt := 23) (pc' := 16) dX12_factor_13 rfl (by decide) (by omega) (by omega) (fun c13 => ?_) (fun c13 => ?_)
    ·
      have n91 : b (p + 0) ≠ 91 := c13
      refine g_aload_n (pc' := 24) dX12_factor_23 rfl rfl ?_
      refine g_invV (pc' := 27) (cm_good hok hr.g) dX12_factor_24 rfl rfl ck_13 rfl ml_X12_271 im_X12_isGood sl_X12_isGood in_X12 co_X12_isGood pd_X12_isGood rfl (by omega) (by decide) ⟨by decide, by decide⟩ (Nat.le_of_ble_eq_true rfl) ?_
      rintro _ _ ⟨rfl, rfl⟩ -
      refine g_if_neN (tgt := 31) (pc' := 30) dX12_factor_27 rfl (by decide) (by decide) (fun _ => ?_) (fun q => False.elim (by revert q; decide))
      refine g_aload_n (pc' := 32) dX12_factor_31 rfl rfl ?_
      refine g_invV (pc' := 35) (cm_sees hok hb hr.1 hr.2.1 hp4) dX12_factor_32 rfl rfl ck_13 rfl ml_X12_299 im_X12_seesDigit sl_X12_seesDigit in_X12 co_X12_seesDigit pd_X12_seesDigit rfl (by omega) (by decide) ⟨by decide, by decide⟩ (Nat.le_of_ble_eq_true rfl) ?_
      rintro _ _ ⟨rfl, rfl⟩ -
      refine g_ifB_eq (tgt := 50) (pc' := 38) dX12_factor_35 rfl (by decide) (fun c35 => ?_) (fun c35 => ?_)
      ·
        refine g_aload_n (pc' := 51) dX12_factor_50 rfl rfl ?_
        refine g_invV (pc' := 54) (cm_here hok hb hr.1 hr.2.1 hp4) dX12_factor_51 rfl rfl ck_13 rfl ml_X12_288 im_X12_here sl_X12_here in_X12 co_X12_here pd_X12_here rfl (by omega) (by decide) ⟨by decide, by decide⟩ (Nat.le_of_ble_eq_true rfl) ?_
        rintro _ _ ⟨rfl, rfl⟩ -
        refine g_invS (pc' := 57) (cm_isLt hok (hb.2.1 p)) dX12_factor_54 rfl ml_X12_323 st_X12_isValue in_X12 co_X12_isValue pd_X12_isValue rfl (by omega) (by decide) ⟨by decide, by decide⟩ (Nat.le_of_ble_eq_true rfl) ?_
        rintro _ _ ⟨rfl, rfl⟩ -
        refine g_ifB_eq (tgt := 82) (pc' := 60) dX12_factor_57 rfl (by decide) (fun c57 => ?_) (fun c57 => ?_)
        ·
          refine g_aload_n (pc' := 83) dX12_factor_82 rfl rfl ?_
          refine g_iconstN (n := 1) (pc' := 84) dX12_factor_83 rfl ?_
          refine g_aload_n (pc' := 85) dX12_factor_84 rfl rfl ?_
          refine g_getIv (v := nI (p)) (pc' := 88) (k := 43) dX12_factor_85 rfl rfl ck_13 (by decide) fl_X12_262 rfl (hr.2.1) ?_
          refine g_invV (pc' := 91) (cm_wrong hok hr.g 1 p) dX12_factor_88 rfl rfl ck_13 rfl ml_X12_284 im_X12_wrongs sl_X12_wrongs in_X12 co_X12_wrongs pd_X12_wrongs rfl (by omega) (by decide) ⟨by decide, by decide⟩ (Nat.le_of_ble_eq_true rfl) ?_
          rintro _ _ ⟨rfl, rfl⟩ -
          refine g_vret dX12_factor_91 rfl (by decide) (by decide) ?_
          refine hQ _ (hk.tr ((YK.rf c w h1).f rfl) (Nat.le_refl c) (Nat.le_refl w)) ⟨0, fun i hi => absurd hi (Nat.not_lt_zero i), ho, Or.inr ⟨n91, fun A => ?_⟩⟩
          have ea : atR b (p + 0) A = (1, p, A) := (cif_f c35).trans (cif_f c57)
          rw [ea]
          exact ⟨fun z => absurd (show (1 : Nat) = 0 from z) (by decide), fun _ => wI_same _ _ _ _⟩
        ·
          have hltL := hb.lt (isLt_ne c57)
          refine g_aload_n (pc' := 61) dX12_factor_60 rfl rfl ?_
          refine g_iconstN (n := 1) (pc' := 62) dX12_factor_61 rfl ?_
          refine g_aload_n (pc' := 63) dX12_factor_62 rfl rfl ?_
          refine g_invV (pc' := 66) (cm_here hok hb hr.1 hr.2.1 hp4) dX12_factor_63 rfl rfl ck_13 rfl ml_X12_288 im_X12_here sl_X12_here in_X12 co_X12_here pd_X12_here rfl (by omega) (by decide) ⟨by decide, by decide⟩ (Nat.le_of_ble_eq_true rfl) ?_
          rintro _ _ ⟨rfl, rfl⟩ -
          refine g_invV (pc' := 69) (cm_emit (c := c) hok hr.s hr.g hr.2.2.1 (by omega) _ _) dX12_factor_66 rfl rfl ck_13 rfl ml_X12_314 im_X12_emit sl_X12_emit in_X12 co_X12_emit pd_X12_emit rfl (by omega) (by decide) ⟨by decide, by decide⟩ (Nat.le_of_ble_eq_true rfl) ?_
          rintro _ _ ⟨rfl, rfl⟩ -
          refine g_aload_n (pc' := 70) dX12_factor_69 rfl rfl ?_
          refine g_dup (pc' := 71) dX12_factor_70 rfl rfl ?_
          refine g_getIv (v := nI (p)) (pc' := 74) (k := 43) dX12_factor_71 rfl rfl ck_13 (by decide) fl_X12_262 rfl (hr.2.1) ?_
          refine g_iconstN (n := 1) (pc' := 75) dX12_factor_74 rfl ?_
          refine g_iaddN (pc' := 76) dX12_factor_75 rfl ?_
          refine g_putI (pc' := 79) (k := 43) dX12_factor_76 rfl rfl ck_13 (by decide) fl_X12_262 rfl rfl rfl rfl ?_
          refine g_goto (tgt := 91) dX12_factor_79 (by decide) ?_
          refine g_vret dX12_factor_91 rfl (by decide) (by decide) ?_
          refine hQ _ (hk.tr (((YK.rf c w h1).em (Nat.le_refl c)).f rfl) (Nat.le_refl c) (Nat.le_refl w)) ⟨0, fun i hi => absurd hi (Nat.not_lt_zero i), ho, Or.inr ⟨n91, fun A => ?_⟩⟩
          have ea : atR b (p + 0) A = (0, p + 1, fL (b p)) := (cif_f c35).trans (cif_t c57)
          rw [ea]
          have hlt := hb.lt (isLt_ne c57)
          exact ⟨fun _ => ⟨hr.em (q := p + 1) (Nat.lt_succ_self p) (show p + 1 ≤ n by omega), SR.let (em_c (x := nI 1) (a := nI (b p))).1 c57 (em_c (x := nI 1) (a := nI (b p))).2⟩, fun z => absurd rfl z⟩
      ·
        refine g_aload_n (pc' := 39) dX12_factor_38 rfl rfl ?_
        refine g_iconstN (n := 0) (pc' := 40) dX12_factor_39 rfl ?_
        refine g_aload_n (pc' := 41) dX12_factor_40 rfl rfl ?_
        refine g_invV (pc' := 44) (cm_reads hok hb hr.1 hr.2.1 hr.g c35) dX12_factor_41 rfl rfl ck_13 rfl ml_X12_320 im_X12_reads sl_X12_reads in_X12 co_X12_reads pd_X12_reads rfl (by omega) (by decide) ⟨by decide, by decide⟩ (Nat.le_of_ble_eq_true rfl) ?_
        rintro r2 h2 rq -
        have np := numS_p hb 5 p 0 hi.2
        have npos := numS_pos hb hi.2 c35
        rcases Classical.em (dgt (b (numS b 5 p 0).1)) with e2 | e2
        ·
          obtain ⟨⟨v2, rfl⟩, rfl⟩ := rq.2 e2
          refine g_invV (pc' := 47) (cm_emitB hok (by rw [wI_f (by decide), wI_same]; exact bdv_ne (by decide) (by decide) (by omega)) _ _) dX12_factor_44 rfl rfl ck_13 rfl ml_X12_314 im_X12_emit sl_X12_emit in_X12 co_X12_emit pd_X12_emit rfl (by omega) (by decide) ⟨by decide, by decide⟩ (Nat.le_of_ble_eq_true rfl) ?_
          rintro _ _ ⟨rfl, rfl⟩ -
          refine g_goto (tgt := 91) dX12_factor_47 (by decide) ?_
          refine g_vret dX12_factor_91 rfl (by decide) (by decide) ?_
          refine hQ _ (hk.tr (((YK.rf c w h1).f rfl).f rfl) (Nat.le_refl c) (Nat.le_refl w)) ⟨0, fun i hi => absurd hi (Nat.not_lt_zero i), ho, Or.inr ⟨n91, fun A => ?_⟩⟩
          have ea : atR b (p + 0) A = (2, (numS b 5 p 0).1, A) := (cif_t c35).trans (cif_t e2)
          rw [ea]
          exact ⟨fun z => absurd (show (2 : Nat) = 0 from z) (by decide), fun _ => by rw [wI_f (by decide), wI_same]⟩
        ·
          obtain ⟨rfl, rfl⟩ := rq.1 e2
          refine g_invV (pc' := 47) (cm_emit (c := c) (h := wI h1 MO 43 (nI (numS b 5 p 0).1)) hok hr.s hr.g hr.2.2.1 (by omega) _ _) dX12_factor_44 rfl rfl ck_13 rfl ml_X12_314 im_X12_emit sl_X12_emit in_X12 co_X12_emit pd_X12_emit rfl (by omega) (by decide) ⟨by decide, by decide⟩ (Nat.le_of_ble_eq_true rfl) ?_
          rintro _ _ ⟨rfl, rfl⟩ -
          refine g_goto (tgt := 91) dX12_factor_47 (by decide) ?_
          refine g_vret dX12_factor_91 rfl (by decide) (by decide) ?_
          refine hQ _ (hk.tr (((YK.rf c w h1).f rfl).em (Nat.le_refl c)) (Nat.le_refl c) (Nat.le_refl w)) ⟨0, fun i hi => absurd hi (Nat.not_lt_zero i), ho, Or.inr ⟨n91, fun A => ?_⟩⟩
          have ea : atR b (p + 0) A = (0, (numS b 5 p 0).1, fN (nI (numS b 5 p 0).2)) := (cif_t c35).trans (cif_f e2)
          rw [ea]
          refine ⟨fun _ => ⟨⟨hr.1.k (((YK.rf 0 0 h1).f rfl).em (Nat.zero_le c)), rfl, rfl, hr.2.2.2.1, hr.2.2.2.2.1, hr.g, ?_, np.2.1⟩, ?_⟩, fun z => absurd rfl z⟩
          · show c + 1 + w ≤ (numS b 5 p 0).1
            omega
          · have q := SR.num (c := (emH c (nI 0) (nI (numS b 5 p 0).2) (wI h1 MO 43 (nI (numS b 5 p 0).1))).1 (141, 0)) (a := (emH c (nI 0) (nI (numS b 5 p 0).2) (wI h1 MO 43 (nI (numS b 5 p 0).1))).1 (142, 0)) (em_c (c := c) (x := nI 0) (a := nI (numS b 5 p 0).2)).1
            rw [em_c.2] at q
            exact q
    ·
      refine g_aload_n (pc' := 17) dX12_factor_16 rfl rfl ?_
      refine g_invV (pc' := 20) (cm_opens (w := w) hok hb hr.1 hr.2.1 (by omega) hr.g hr.2.2.2.1 hr.2.2.2.2.1 (by omega) ho) dX12_factor_17 rfl rfl ck_13 rfl ml_X12_317 im_X12_opens sl_X12_opens in_X12 co_X12_opens pd_X12_opens rfl (by omega) (by decide) ⟨by decide, by decide⟩ (Nat.le_of_ble_eq_true rfl) ?_
      rintro _ _ ⟨rfl, rfl⟩ -
      refine g_goto (tgt := 0) dX12_factor_20 (by decide) ?_
      have hlt := hb.lt (p := p) (by omega)
      by_cases o6 : o = 6
      · subst o6
        rw [if_pos rfl]
        have e45 : (ptH w p (nI (b p)) (wI (wI h1 MO 45 (bdv 5 p)) MO 48 (nI (6 + 1)))).1 MO 45 = bdv 5 p := by
          unfold ptH
          rw [wI_f (by decide), wI_f (by decide), wI_off _ _ _ _ MO (by decide), wI_f (by decide), wI_same]
        have hbad : ¬ (ptH w p (nI (b p)) (wI (wI h1 MO 45 (bdv 5 p)) MO 48 (nI (6 + 1)))).1 MO 45 = 0 := by
          rw [e45]
          exact bdv_ne (by decide) (by decide) (by omega)
        refine g_aload_n (pc' := 1) dX12_factor_0 rfl rfl ?_
        refine g_invV (pc' := 4) (cm_bad hok hbad) dX12_factor_1 rfl rfl ck_13 rfl ml_X12_271 im_X12_isGood sl_X12_isGood in_X12 co_X12_isGood pd_X12_isGood rfl (by omega) (by decide) ⟨by decide, by decide⟩ (Nat.le_of_ble_eq_true rfl) ?_
        rintro _ _ ⟨rfl, rfl⟩ -
        refine g_if_eqN (tgt := 23) (pc' := 7) dX12_factor_4 rfl (by decide) (by decide) (fun _ => ?_) (fun q => False.elim (by revert q; decide))
        refine g_aload_n (pc' := 24) dX12_factor_23 rfl rfl ?_
        refine g_invV (pc' := 27) (cm_bad hok hbad) dX12_factor_24 rfl rfl ck_13 rfl ml_X12_271 im_X12_isGood sl_X12_isGood in_X12 co_X12_isGood pd_X12_isGood rfl (by omega) (by decide) ⟨by decide, by decide⟩ (Nat.le_of_ble_eq_true rfl) ?_
        rintro _ _ ⟨rfl, rfl⟩ -
        refine g_if_neN (tgt := 31) (pc' := 30) dX12_factor_27 rfl (by decide) (by decide) (fun q => False.elim (by revert q; decide)) (fun _ => ?_)
        refine g_vret dX12_factor_30 rfl (by decide) (by decide) ?_
        exact hQ _ (hk.tr ((((YK.rf c w h1).f rfl).f rfl).put (Nat.le_refl w)) (Nat.le_refl c) (Nat.le_refl w)) ⟨0, fun i hi => absurd hi (Nat.not_lt_zero i), ho, Or.inl ⟨rfl, c13, e45⟩⟩
      · rw [if_neg o6]
        have hr2 : RS b n (p + 1) c (w + 1) (o + 1) (ptH w p (nI (b p)) (wI h1 MO 48 (nI (o + 1)))) := ⟨hr.1.k (((YK.rf 0 0 h1).f rfl).put (Nat.zero_le w)), rfl, hr.2.2.1, rfl, rfl, hr.g, by omega, by omega⟩
        have hk2 : YK c w h (ptH w p (nI (b p)) (wI h1 MO 48 (nI (o + 1)))) := (hk.f rfl).put (Nat.le_refl w)
        refine ih (p + 1) (w + 1) (o + 1) _ _ (by omega) (by omega) (YK.rf _ _ _) hr2 (fun h2 k2 fa => hQ h2 (hk2.tr k2 (Nat.le_refl c) (Nat.le_succ w)) (FA.cons c13 ?_ fa))
        rw [k2.2.2.2.2 w (Nat.lt_succ_self w)]
        show (wI (wI h1 MO 48 (nI (o + 1))) (152, 0) w (nI (b p))).1 (152, 0) w = _
        rw [wI_same, c13]
theorem cm_factor {E : En} (hok : EOK E) {b : Nat → Nat} {n p c w o : Nat} {h : Hp} (hb : HB b n) (hr : RS b n p c w o h) (ho : o ≤ 6) : Call E m_X12_factor 3 0 0 [vR MO] h (fun r h' => r = none ∧ YK c w h h' ∧ FA b n p c w o h') :=
  Call.enter hok (by decide) (Nat.le_of_ble_eq_true rfl) (fa_loop hok hb (n - p) p w o h h (Nat.le_refl _) ho (YK.rf _ _ _) hr (fun _ k f => ⟨rfl, k, f⟩))
