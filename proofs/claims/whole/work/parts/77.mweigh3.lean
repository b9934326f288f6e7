theorem b9_of {h h' : Hp} (f : h'.2 = h.2 ∧ ∀ q : Ad, q ≠ (180, 0) → h'.1 q = h.1 q) : B9 h h' := ⟨f.1, fun q z _ _ => f.2 q z, fun j _ => by rw [f.2 MO (by decide)]⟩
theorem encR_of {g : Nat → Nat} {b : WT} {h h' : Hp} (f : h'.2 = h.2 ∧ ∀ q : Ad, q ≠ (180, 0) → h'.1 q = h.1 q) (e : encR g b h) : encR g b h' := by
  unfold encR at *
  rw [f.2 MO (by decide), f.2 (181, 0) (by decide)]
  exact e
set_option maxRecDepth 4000 in
theorem lm_weighs3 {E : En} (hok : EOK E) {hb h0 : Hp} {m : St} (hsb : Shp hb.2) (hwm : Wf m) (hxm : Wx m) {t : Nat} (htm : t < nT m) {W e : Nat} (hW : W ≤ 200000) (he : e ≤ 2000) {d : Nat} (hd : 1 ≤ d) {Q : Option V → Hp → Prop} (hQ : ∀ h, B9 hb h → encR (gW m t) (wgR m t W e) h → Q none h) : ∀ n x (h : Hp), x ≤ rx (gW m t) 0 → rx (gW m t) 0 - x = n → mo h = m → B9 hb h → encR (gW m t) (wgF (gW m t) (vW m t) (bgN m t) W e x) h → (x < rx (gW m t) 0 → dgs (gW m t) x h) → G E m_X12_weighs d 0 0 Q h0 56 [some (vR MO), some (vI (nI t)), some (vI (nI W)), some (vI (nI e)), some (vI (nI (bgN m t))), some (vI (bi (x < rx (gW m t) 0))), none, none, none, none] [] h 0 0 := by
  intro n
  induction n with
  | zero =>
    intro x h h1 h2 hm hb9 hen hdg
    subst hm
    have hs : Shp h.2 := by rw [hb9.1]; exact hsb
    have hw : Wf (mo h) := hwm
    have hx : Wx (mo h) := hxm
    have ht := htm
    refine g_iload (pc' := 58) dX12_weighs_56 rfl rfl ?_
    refine g_ifB_eq (tgt := 266) (pc' := 61) dX12_weighs_58 rfl (by decide) (fun c58 => ?_) (fun c58 => ?_)
    ·
      refine g_vret dX12_weighs_266 rfl (by decide) (by decide) ?_
      have e0 : x = rx (gW (mo h) t) 0 := by omega
      subst e0
      exact hQ h hb9 hen
    · exact absurd c58 (by omega)
  | succ n ih =>
    intro x h h1 h2 hm hb9 hen hdg
    subst hm
    have hs : Shp h.2 := by rw [hb9.1]; exact hsb
    have hw : Wf (mo h) := hwm
    have hx : Wx (mo h) := hxm
    have ht := htm
    have hNw : h.1 MO 2 = nI (nW (mo h)) := hw.w.1
    have hNwb := hw.w.2
    have hC : h.1 MO 30 = nI (nC (mo h)) := hw.c.1
    have hCb := hw.c.2
    have hK : h.1 MO 3 = nI (nK (mo h)) := hw.k.1
    have hKb := hw.k.2
    have hT : h.1 MO 4 = nI (nT (mo h)) := hw.t.1
    have hTb := hw.t.2
    have hF : h.1 MO 5 = nI (nF (mo h)) := hw.f.1
    have hFb := hw.f.2
    have hRc : h.1 MO 59 = nI (nR (mo h)) := hw.r.1
    have hRb := hw.r.2
    have hG : h.1 MO 60 = nI (nGf (mo h)) := hw.g.1
    have hGb := hw.g.2
    have hA : h.1 MO 70 = nI (nA (mo h)) := hw.a.1
    have hAb := hw.a.2
    have hTl : h.1 MO 1 = nI (nTl (mo h)) := hw.tl.1
    have hTlb := hw.tl.2
    refine g_iload (pc' := 58) dX12_weighs_56 rfl rfl ?_
    refine g_ifB_eq (tgt := 266) (pc' := 61) dX12_weighs_58 rfl (by decide) (fun c58 => ?_) (fun c58 => ?_)
    · exact absurd (show x < rx (gW (mo h) t) 0 by omega) c58
    ·
      refine g_iload (pc' := 63) dX12_weighs_61 rfl rfl ?_
      refine g_istore (pc' := 65) dX12_weighs_63 rfl (by decide) rfl ?_
      try simp only [List.set]
      refine g_iconstN (n := 0) (pc' := 66) dX12_weighs_65 rfl ?_
      refine g_istore (pc' := 68) dX12_weighs_66 rfl (by decide) rfl ?_
      try simp only [List.set]
      refine g_iconst (v := 0) (pc' := 69) dX12_weighs_68 rfl (by decide) ?_
      refine g_istore (pc' := 71) dX12_weighs_69 rfl (by decide) rfl ?_
      try simp only [List.set]
      refine g_iconstN (n := 0) (pc' := 72) dX12_weighs_71 rfl ?_
      refine g_istore (pc' := 74) dX12_weighs_72 rfl (by decide) rfl ?_
      try simp only [List.set]
      have hle := wgF_le (gW_le hw hx ht) (w := vW (mo h) t) (B := bgN (mo h) t) (W := W) (e := e) x
      have hrx := rx_le (gW_le hw hx ht)
      have key : ∀ h3, B9 h h3 → encR (gW (mo h) t) (stW (gW (mo h) t) (vW (mo h) t) (bgN (mo h) t) W e (wgF (gW (mo h) t) (vW (mo h) t) (bgN (mo h) t) W e x) x) h3 → dgs (gW (mo h) t) x h3 → G E m_X12_weighs d 0 0 Q h0 256 [some (vR MO), some (vI (nI t)), some (vI (nI W)), some (vI (nI e)), some (vI (nI (bgN (mo h) t))), none, none, none, none, none] [] h3 0 0 := by
        intro h3 f3 e3 d3
        have hs3 : Shp h3.2 := by rw [f3.1]; exact hs
        have m3 := f3.mo
        refine g_aload_n (pc' := 257) dX12_weighs_256 rfl rfl ?_
        refine g_iload_n (pc' := 258) dX12_weighs_257 rfl rfl ?_
        refine g_invV (pc' := 261) (cm_goesOn hok hs3 (gW_le hw hx ht) (by omega) c58 (fun s hs => by rw [f3.2.1 (125, 0) (by decide) (by decide) (by decide)]; exact (hs_n hw hx ht hs).1) d3) dX12_weighs_258 rfl rfl ck_13 rfl ml_X12_501 im_X12_goesOn sl_X12_goesOn in_X12 co_X12_goesOn pd_X12_goesOn rfl (by omega) (by decide) ⟨by decide, by decide⟩ (Nat.le_of_ble_eq_true rfl) ?_
        rintro _ h4 ⟨rfl, f4, d4⟩ -
        have m4 : mo h4 = mo h3 := (b9_of f4).mo
        refine g_istore (pc' := 263) dX12_weighs_261 rfl (by decide) rfl ?_
        try simp only [List.set]
        refine g_goto (tgt := 56) dX12_weighs_263 (by decide) ?_
        refine ih (x + 1) h4 (by omega) (by omega) (m4.trans m3) (hb9.tr (f3.tr (b9_of f4))) ?_ d4
        rw [wg_s]
        exact encR_of f4 e3
      refine G.drop 5 ?_
      simp only [List.set]
      refine lm_weighs2 hok hs hw hx ht (hdg c58) _ _ (Nat.zero_le _) ?_ _ 0 (Nat.zero_le _) rfl
      by_cases hz : (wgF (gW (mo h) t) (vW (mo h) t) (bgN (mo h) t) W e x).1 = 0
      · exact lm_wproc0 hok hs hw hx ht hW he (hdg c58) (by omega) hle.2 hen hz hd key
      · exact lm_wproc1 hok hs hw hx ht hW he (hdg c58) (by omega) hle.2 hen hz hd key
set_option maxRecDepth 4000 in
theorem lm_weighs1 {E : En} (hok : EOK E) {h h0 : Hp} (hs0 : Shp h.2) (p1 p2 p3 : Int32) {d : Nat} {Q : Option V → Hp → Prop} (hQ : G E m_X12_weighs d 0 0 Q h0 46 [some (vR MO), some (vI p1), some (vI p2), some (vI p3), none, none, none, none, none, none] [] (wN h (180, 0) 0 (fun _ => nI 0) 6) 0 0) : ∀ n s : Nat, s ≤ 6 → 6 - s = n → G E m_X12_weighs d 0 0 Q h0 25 [some (vR MO), some (vI p1), some (vI p2), some (vI p3), some (vI (nI s)), none, none, none, none, none] [] (wN h (180, 0) 0 (fun _ => nI 0) s) 0 0 := by
  intro n
  induction n with
  | zero =>
    intro s h1 h2
    have hs : Shp (wN h (180, 0) 0 (fun _ => nI 0) s).2 := by rw [wN_2]; exact hs0
    refine g_iload (pc' := 27) dX12_weighs_25 rfl rfl ?_
    refine g_bipushN (n := 6) (pc' := 29) dX12_weighs_27 rfl (by decide) ?_
    refine g_icmp_geN (tgt := 46) (pc' := 32) dX12_weighs_29 rfl (by decide) (by omega) (by omega) (fun c29 => ?_) (fun c29 => ?_)
    ·
      have e6 : s = 6 := by omega
      subst e6
      refine G.drop 4 ?_
      simp only [List.set]
      exact hQ
    · exact absurd c29 (by omega)
  | succ n ih =>
    intro s h1 h2
    have hs : Shp (wN h (180, 0) 0 (fun _ => nI 0) s).2 := by rw [wN_2]; exact hs0
    refine g_iload (pc' := 27) dX12_weighs_25 rfl rfl ?_
    refine g_bipushN (n := 6) (pc' := 29) dX12_weighs_27 rfl (by decide) ?_
    refine g_icmp_geN (tgt := 46) (pc' := 32) dX12_weighs_29 rfl (by decide) (by omega) (by omega) (fun c29 => ?_) (fun c29 => ?_)
    · exact absurd c29 (by omega)
    ·
      refine g_aload_n (pc' := 33) dX12_weighs_32 rfl rfl ?_
      refine g_getS (pc' := 36) (k := 80) (b := (180, 0)) dX12_weighs_33 rfl rfl ck_13 (by decide) fl_X12_177 rfl hs rfl ?_
      refine g_iload (pc' := 38) dX12_weighs_36 rfl rfl ?_
      refine g_iconstN (n := 0) (pc' := 39) dX12_weighs_38 rfl ?_
      refine g_iastN (pc' := 40) dX12_weighs_39 rfl rfl (by decide) (by omega) ?_
      refine g_iincN (k := 1) (pc' := 43) dX12_weighs_40 rfl rfl (by decide) rfl ?_
      try simp only [List.set]
      refine g_goto (tgt := 25) dX12_weighs_43 (by decide) ?_
      have q := ih (s + 1) (by omega) (by omega)
      rw [wN_0s] at q
      exact q
set_option maxRecDepth 4000 in
theorem cm_weighs {E : En} (hok : EOK E) {h : Hp} (hs : Shp h.2) (hw : Wf (mo h)) (hx : Wx (mo h)) {t : Nat} (ht : t < nT (mo h)) {W e : Nat} (hW : W ≤ 200000) (he : e ≤ 2000) : Call E m_X12_weighs 1 0 0 [vR MO, vI (nI t), vI (nI W), vI (nI e)] h (fun r h' => r = none ∧ B9 h h' ∧ encR (gW (mo h) t) (wgR (mo h) t W e) h') := by
  have k1 : B9 h (wN (wI (wI (wI (wI h MO 82 (nI 0)) MO 83 (nI 63)) MO 84 (nI 63)) MO 85 (-1)) (180, 0) 0 (fun _ => nI 0) 6) := B9.n (((((B9.rf h).m (by decide)).m (by decide)).m (by decide)).m (by decide)) (Or.inl rfl) 6
  have m1 : mo (wN (wI (wI (wI (wI h MO 82 (nI 0)) MO 83 (nI 63)) MO 84 (nI 63)) MO 85 (-1)) (180, 0) 0 (fun _ => nI 0) 6) = mo h := k1.mo
  have hs1 : Shp (wN (wI (wI (wI (wI h MO 82 (nI 0)) MO 83 (nI 63)) MO 84 (nI 63)) MO 85 (-1)) (180, 0) 0 (fun _ => nI 0) 6).2 := by rw [k1.1]; exact hs
  have hTb := hw.t.2
  refine Call.enter hok (by decide) (Nat.le_of_ble_eq_true rfl) ?_
  show G E m_X12_weighs 1 0 0 _ h 0 [some (vR MO), some (vI (nI t)), some (vI (nI W)), some (vI (nI e)), none, none, none, none, none, none] [] h 0 0
  refine g_aload_n (pc' := 1) dX12_weighs_0 rfl rfl ?_
  refine g_iconstN (n := 0) (pc' := 2) dX12_weighs_1 rfl ?_
  refine g_putI (pc' := 5) (k := 82) dX12_weighs_2 rfl rfl ck_13 (by decide) fl_X12_489 rfl rfl rfl rfl ?_
  refine g_aload_n (pc' := 6) dX12_weighs_5 rfl rfl ?_
  refine g_bipushN (n := 63) (pc' := 8) dX12_weighs_6 rfl (by decide) ?_
  refine g_putI (pc' := 11) (k := 83) dX12_weighs_8 rfl rfl ck_13 (by decide) fl_X12_492 rfl rfl rfl rfl ?_
  refine g_aload_n (pc' := 12) dX12_weighs_11 rfl rfl ?_
  refine g_bipushN (n := 63) (pc' := 14) dX12_weighs_12 rfl (by decide) ?_
  refine g_putI (pc' := 17) (k := 84) dX12_weighs_14 rfl rfl ck_13 (by decide) fl_X12_495 rfl rfl rfl rfl ?_
  refine g_aload_n (pc' := 18) dX12_weighs_17 rfl rfl ?_
  refine g_iconst (v := -1) (pc' := 19) dX12_weighs_18 rfl (by decide) ?_
  refine g_putI (pc' := 22) (k := 85) dX12_weighs_19 rfl rfl ck_13 (by decide) fl_X12_498 rfl rfl rfl rfl ?_
  refine g_iconstN (n := 0) (pc' := 23) dX12_weighs_22 rfl ?_
  refine g_istore (pc' := 25) dX12_weighs_23 rfl (by decide) rfl ?_
  try simp only [List.set]
  refine lm_weighs1 (h := wI (wI (wI (wI h MO 82 (nI 0)) MO 83 (nI 63)) MO 84 (nI 63)) MO 85 (-1)) hok hs _ _ _ ?_ _ 0 (Nat.zero_le _) rfl
  refine g_aload_n (pc' := 47) dX12_weighs_46 rfl rfl ?_
  refine g_iload_n (pc' := 48) dX12_weighs_47 rfl rfl ?_
  refine g_invV (pc' := 51) (cm_bagOf hok hs1 (by rw [m1]; exact hw) (t := t) (by rw [m1]; exact ht)) dX12_weighs_48 rfl rfl ck_13 rfl ml_X12_486 im_X12_bagOf sl_X12_bagOf in_X12 co_X12_bagOf pd_X12_bagOf rfl (by omega) (by decide) ⟨by decide, by decide⟩ (Nat.le_of_ble_eq_true rfl) ?_
  rintro _ _ ⟨rfl, rfl⟩ -
  rw [m1, (bag_n hw hx ht).1]
  refine g_istore (pc' := 53) dX12_weighs_51 rfl (by decide) rfl ?_
  try simp only [List.set]
  refine g_iconstN (n := 1) (pc' := 54) dX12_weighs_53 rfl ?_
  refine g_istore (pc' := 56) dX12_weighs_54 rfl (by decide) rfl ?_
  try simp only [List.set]
  have rp := rx_pos (gW (mo h) t) 0
  have e1 : nI 1 = bi (0 < rx (gW (mo h) t) 0) := (bi_t rp).symm
  rw [e1]
  refine lm_weighs3 hok hs hw hx ht hW he (Nat.le_refl _) (fun h3 f3 e3 => ⟨rfl, f3, e3⟩) _ 0 _ (Nat.zero_le _) rfl m1 k1 ?_ (fun _ s hs => ?_)
  · have eM : ∀ j, (wN (wI (wI (wI (wI h MO 82 (nI 0)) MO 83 (nI 63)) MO 84 (nI 63)) MO 85 (-1)) (180, 0) 0 (fun _ => nI 0) 6).1 MO j = (wI (wI (wI (wI h MO 82 (nI 0)) MO 83 (nI 63)) MO 84 (nI 63)) MO 85 (-1)).1 MO j := fun j => by rw [wN_off _ _ _ _ (by decide)]
    refine ⟨?_, ?_, ?_, ?_, fun z => absurd rfl z⟩
    · rw [eM]; rfl
    · rw [eM]; show nI 63 = nI 63 &&& ((0 : Int32) ^^^ (-1)); decide
    · rw [eM]; show nI 63 = nI 63 &&& ((0 : Int32) ^^^ (-1)); decide
    · rw [eM]; exact (cif_t rfl).symm
  · have q := wN_at (wI (wI (wI (wI h MO 82 (nI 0)) MO 83 (nI 63)) MO 84 (nI 63)) MO 85 (-1)) (180, 0) 0 (fun _ => nI 0) 6 hs
    rw [Nat.zero_add] at q
    rw [ld_0]
    exact q
set_option maxRecDepth 4000 in
theorem cm_weigh {E : En} (hok : EOK E) {h : Hp} (hs : Shp h.2) (hw : Wf (mo h)) (hx : Wx (mo h)) (t0 : Int32) (w0 : Int32) (e0 : Int32) (x : Int32) : Call E m_X12_weigh 2 0 0 [vR MO, vI t0, vI w0, vI e0, vI x] h (fun r h' => r = some (vI (sWeigh (mo h) t0 w0 e0 x).1) ∧ mo h' = (sWeigh (mo h) t0 w0 e0 x).2 ∧ Mk h h') := by
  have hNw : h.1 MO 2 = nI (nW (mo h)) := hw.w.1
  have hNwb := hw.w.2
  have hC : h.1 MO 30 = nI (nC (mo h)) := hw.c.1
  have hCb := hw.c.2
  have hK : h.1 MO 3 = nI (nK (mo h)) := hw.k.1
  have hKb := hw.k.2
  have hT : h.1 MO 4 = nI (nT (mo h)) := hw.t.1
  have hTb := hw.t.2
  have hF : h.1 MO 5 = nI (nF (mo h)) := hw.f.1
  have hFb := hw.f.2
  have hRc : h.1 MO 59 = nI (nR (mo h)) := hw.r.1
  have hRb := hw.r.2
  have hG : h.1 MO 60 = nI (nGf (mo h)) := hw.g.1
  have hGb := hw.g.2
  have hA : h.1 MO 70 = nI (nA (mo h)) := hw.a.1
  have hAb := hw.a.2
  have hTl : h.1 MO 1 = nI (nTl (mo h)) := hw.tl.1
  have hTlb := hw.tl.2
  refine Call.enter hok (by decide) (Nat.le_of_ble_eq_true rfl) ?_
  show G E m_X12_weigh 2 0 0 _ h 0 [some (vR MO), some (vI t0), some (vI w0), some (vI e0), some (vI x)] [] h 0 0
  refine g_aload_n (pc' := 1) dX12_weigh_0 rfl rfl ?_
  refine g_iload_n (pc' := 2) dX12_weigh_1 rfl rfl ?_
  refine g_invV (pc' := 5) (cm_isToy hok hw _) dX12_weigh_2 rfl rfl ck_13 rfl ml_X12_443 im_X12_isToy sl_X12_isToy in_X12 co_X12_isToy pd_X12_isToy rfl (by omega) (by decide) ⟨by decide, by decide⟩ (Nat.le_of_ble_eq_true rfl) ?_
  rintro _ _ ⟨rfl, rfl⟩ -
  refine g_ifB_eq (tgt := 56) (pc' := 8) dX12_weigh_5 rfl (by decide) (fun c5 => ?_) (fun c5 => ?_)
  ·
    refine g_iconst (v := -1) (pc' := 57) dX12_weigh_56 rfl (by decide) ?_
    refine g_iret dX12_weigh_57 rfl (by decide) (by decide) ?_
    have e : sWeigh (mo h) t0 w0 e0 x = (-1, mo h) := cif_f (fun z => c5 z.1)
    rw [e]
    exact ⟨rfl, rfl, Mk.rf h⟩
  ·
    have k5 := c5
    obtain ⟨t, ht, rfl⟩ := k5
    refine g_iload_n (pc' := 9) dX12_weigh_8 rfl rfl ?_
    refine g_i2l (pc' := 10) dX12_weigh_9 rfl ?_
    refine g_lconst (v := 0) (pc' := 11) dX12_weigh_10 rfl rfl ?_
    refine g_ldc2 (pc' := 14) dX12_weigh_11 rfl kc_X12_504 ?_
    refine g_invS (pc' := 17) (c_liesI hok _ (0) (200000) rfl (by decide) (by decide)) dX12_weigh_14 rfl ml_X12_203 st_X12_lies in_X12 co_X12_lies pd_X12_lies rfl (by omega) (by decide) ⟨by decide, by decide⟩ (Nat.le_of_ble_eq_true rfl) ?_
    rintro _ _ ⟨rfl, rfl⟩ -
    refine g_ifB_eq (tgt := 56) (pc' := 20) dX12_weigh_17 rfl (by decide) (fun c17 => ?_) (fun c17 => ?_)
    ·
      refine g_iconst (v := -1) (pc' := 57) dX12_weigh_56 rfl (by decide) ?_
      refine g_iret dX12_weigh_57 rfl (by decide) (by decide) ?_
      have e : sWeigh (mo h) (nI t) w0 e0 x = (-1, mo h) := cif_f (fun z => c17 z.2.1)
      rw [e]
      exact ⟨rfl, rfl, Mk.rf h⟩
    ·
      obtain ⟨W, hW, rfl⟩ := rng (n := 200000) rfl (by decide) c17
      refine g_iload_n (pc' := 21) dX12_weigh_20 rfl rfl ?_
      refine g_i2l (pc' := 22) dX12_weigh_21 rfl ?_
      refine g_lconst (v := 0) (pc' := 23) dX12_weigh_22 rfl rfl ?_
      refine g_ldc2 (pc' := 26) dX12_weigh_23 rfl kc_X12_245 ?_
      refine g_invS (pc' := 29) (c_liesI hok _ (0) (2000) rfl (by decide) (by decide)) dX12_weigh_26 rfl ml_X12_203 st_X12_lies in_X12 co_X12_lies pd_X12_lies rfl (by omega) (by decide) ⟨by decide, by decide⟩ (Nat.le_of_ble_eq_true rfl) ?_
      rintro _ _ ⟨rfl, rfl⟩ -
      refine g_ifB_eq (tgt := 56) (pc' := 32) dX12_weigh_29 rfl (by decide) (fun c29 => ?_) (fun c29 => ?_)
      ·
        refine g_iconst (v := -1) (pc' := 57) dX12_weigh_56 rfl (by decide) ?_
        refine g_iret dX12_weigh_57 rfl (by decide) (by decide) ?_
        have e : sWeigh (mo h) (nI t) (nI W) e0 x = (-1, mo h) := cif_f (fun z => c29 z.2.2.1)
        rw [e]
        exact ⟨rfl, rfl, Mk.rf h⟩
      ·
        obtain ⟨e, he, rfl⟩ := rng (n := 2000) rfl (by decide) c29
        refine g_iload (pc' := 34) dX12_weigh_32 rfl rfl ?_
        refine g_i2l (pc' := 35) dX12_weigh_34 rfl ?_
        refine g_lconst (v := 0) (pc' := 36) dX12_weigh_35 rfl rfl ?_
        refine g_ldc2 (pc' := 39) dX12_weigh_36 rfl kc_X12_438 ?_
        refine g_invS (pc' := 42) (c_liesI hok _ (0) (3) rfl (by decide) (by decide)) dX12_weigh_39 rfl ml_X12_203 st_X12_lies in_X12 co_X12_lies pd_X12_lies rfl (by omega) (by decide) ⟨by decide, by decide⟩ (Nat.le_of_ble_eq_true rfl) ?_
        rintro _ _ ⟨rfl, rfl⟩ -
        refine g_ifB_ne (tgt := 58) (pc' := 45) dX12_weigh_42 rfl (by decide) (fun c42 => ?_) (fun c42 => ?_)
        ·
          refine g_aload_n (pc' := 59) dX12_weigh_58 rfl rfl ?_
          refine g_iload_n (pc' := 60) dX12_weigh_59 rfl rfl ?_
          refine g_iload_n (pc' := 61) dX12_weigh_60 rfl rfl ?_
          refine g_iload_n (pc' := 62) dX12_weigh_61 rfl rfl ?_
          refine g_invV (pc' := 65) (cm_weighs hok hs hw hx ht hW he) dX12_weigh_62 rfl rfl ck_13 rfl ml_X12_506 im_X12_weighs sl_X12_weighs in_X12 co_X12_weighs pd_X12_weighs rfl (by omega) (by decide) ⟨by decide, by decide⟩ (Nat.le_of_ble_eq_true rfl) ?_
          rintro _ h1 ⟨rfl, f1, e1⟩ -
          obtain ⟨e82, e83, e84, e85, e181⟩ := e1
          have hs1 : Shp h1.2 := by rw [f1.1]; exact hs
          have hs := hs1
          have hle := (wgF_le (gW_le hw hx ht) (w := vW (mo h) t) (B := bgN (mo h) t) (W := W) (e := e) (rx (gW (mo h) t) 0)).1
          have hrx := rx_le (gW_le hw hx ht)
          have hwb : (wgR (mo h) t W e).1 ≤ 117649 := Nat.le_trans hle hrx
          refine g_aload_n (pc' := 66) dX12_weigh_65 rfl rfl ?_
          refine g_getIv (v := nI ((wgR (mo h) t W e).1)) (pc' := 69) (k := 82) dX12_weigh_66 rfl rfl ck_13 (by decide) fl_X12_489 rfl (e82) ?_
          refine g_if_neN (tgt := 75) (pc' := 72) dX12_weigh_69 rfl (by decide) (by omega) (fun c69 => ?_) (fun c69 => ?_)
          ·
            refine g_iload (pc' := 77) dX12_weigh_75 rfl rfl ?_
            refine g_if_ne (tgt := 87) (pc' := 80) dX12_weigh_77 rfl (by decide) (fun c77 => ?_) (fun c77 => ?_)
            ·
              refine g_iload (pc' := 89) dX12_weigh_87 rfl rfl ?_
              refine g_iconstN (n := 1) (pc' := 90) dX12_weigh_89 rfl ?_
              refine g_icmp_ne (tgt := 100) (pc' := 93) dX12_weigh_90 rfl (by decide) (fun c90 => ?_) (fun c90 => ?_)
              ·
                refine g_iload (pc' := 102) dX12_weigh_100 rfl rfl ?_
                refine g_iconstN (n := 2) (pc' := 103) dX12_weigh_102 rfl ?_
                refine g_icmp_ne (tgt := 113) (pc' := 106) dX12_weigh_103 rfl (by decide) (fun c103 => ?_) (fun c103 => ?_)
                ·
                  refine g_iload (pc' := 115) dX12_weigh_113 rfl rfl ?_
                  refine g_iconstN (n := 3) (pc' := 116) dX12_weigh_115 rfl ?_
                  refine g_icmp_ne (tgt := 126) (pc' := 119) dX12_weigh_116 rfl (by decide) (fun c116 => ?_) (fun c116 => ?_)
                  ·
                    refine g_aload_n (pc' := 127) dX12_weigh_126 rfl rfl ?_
                    refine g_getS (pc' := 130) (k := 81) (b := (181, 0)) dX12_weigh_127 rfl rfl ck_13 (by decide) fl_X12_180 rfl hs rfl ?_
                    refine g_iload (pc' := 132) dX12_weigh_130 rfl rfl ?_
                    refine g_bipushN (n := 10) (pc' := 134) dX12_weigh_132 rfl (by decide) ?_
                    refine g_isub (pc' := 135) dX12_weigh_134 rfl ?_
                    obtain ⟨i, hi, ei⟩ : ∃ i : Nat, i < 6 ∧ x - nI 10 = nI i := by
                      first
                      | exact sort_iff.mp c53
                      | (obtain ⟨j, hj, rfl⟩ := four_iff.mp c42
                         rcases (show j = 0 ∨ j = 1 ∨ j = 2 ∨ j = 3 by omega) with rfl | rfl | rfl | rfl <;> contradiction)
                    rw [ei]
                    refine g_ialdN (pc' := 136) (v := nI (ld (gW (mo h) t) i (wgR (mo h) t W e).2.2.2.2)) dX12_weigh_135 rfl rfl (by decide) (by omega) (e181 c69 i hi) ?_
                    refine g_iret dX12_weigh_136 rfl (by decide) (by decide) ?_
                    have ee : sWeigh (mo h) (nI t) (nI W) (nI e) x = (wgA (mo h) t W e x, mo h) := by unfold sWeigh; simp only [nI_clamp (show t < 2 ^ 31 by omega), nI_clamp (show W < 2 ^ 31 by omega), nI_clamp (show e < 2 ^ 31 by omega)]; exact cif_t ⟨c5, c17, c29, Or.inl c42⟩
                    rw [ee]
                    exact ⟨congrArg (fun z : Int32 => some (vI z)) (show _ = wgA (mo h) t W e x from ((cif_f c69).trans ((cif_f c77).trans ((cif_f c90).trans ((cif_f c103).trans ((cif_f c116).trans (by rw [ei, nI_clamp (by omega)])))))).symm), f1.mo, f1.mk⟩
                  ·
                    refine g_aload_n (pc' := 120) dX12_weigh_119 rfl rfl ?_
                    refine g_getIv (v := nI (wgR (mo h) t W e).2.2.2.1) (pc' := 123) (k := 85) dX12_weigh_120 rfl rfl ck_13 (by decide) fl_X12_498 rfl (e85.trans (cif_f c69)) ?_
                    refine g_goto (tgt := 136) dX12_weigh_123 (by decide) ?_
                    refine g_iret dX12_weigh_136 rfl (by decide) (by decide) ?_
                    have ee : sWeigh (mo h) (nI t) (nI W) (nI e) x = (wgA (mo h) t W e x, mo h) := by unfold sWeigh; simp only [nI_clamp (show t < 2 ^ 31 by omega), nI_clamp (show W < 2 ^ 31 by omega), nI_clamp (show e < 2 ^ 31 by omega)]; exact cif_t ⟨c5, c17, c29, Or.inl c42⟩
                    rw [ee]
                    exact ⟨congrArg (fun z : Int32 => some (vI z)) (show _ = wgA (mo h) t W e x from ((cif_f c69).trans ((cif_f c77).trans ((cif_f c90).trans ((cif_f c103).trans (cif_t c116))))).symm), f1.mo, f1.mk⟩
                ·
                  refine g_aload_n (pc' := 107) dX12_weigh_106 rfl rfl ?_
                  refine g_getIv (v := nI 63 &&& ((wgR (mo h) t W e).2.2.1 ^^^ (-1))) (pc' := 110) (k := 84) dX12_weigh_107 rfl rfl ck_13 (by decide) fl_X12_495 rfl (e84) ?_
                  refine g_goto (tgt := 136) dX12_weigh_110 (by decide) ?_
                  refine g_iret dX12_weigh_136 rfl (by decide) (by decide) ?_
                  have ee : sWeigh (mo h) (nI t) (nI W) (nI e) x = (wgA (mo h) t W e x, mo h) := by unfold sWeigh; simp only [nI_clamp (show t < 2 ^ 31 by omega), nI_clamp (show W < 2 ^ 31 by omega), nI_clamp (show e < 2 ^ 31 by omega)]; exact cif_t ⟨c5, c17, c29, Or.inl c42⟩
                  rw [ee]
                  exact ⟨congrArg (fun z : Int32 => some (vI z)) (show _ = wgA (mo h) t W e x from ((cif_f c69).trans ((cif_f c77).trans ((cif_f c90).trans (cif_t c103)))).symm), f1.mo, f1.mk⟩
              ·
                refine g_aload_n (pc' := 94) dX12_weigh_93 rfl rfl ?_
                refine g_getIv (v := nI 63 &&& ((wgR (mo h) t W e).2.1 ^^^ (-1))) (pc' := 97) (k := 83) dX12_weigh_94 rfl rfl ck_13 (by decide) fl_X12_492 rfl (e83) ?_
                refine g_goto (tgt := 136) dX12_weigh_97 (by decide) ?_
                refine g_iret dX12_weigh_136 rfl (by decide) (by decide) ?_
                have ee : sWeigh (mo h) (nI t) (nI W) (nI e) x = (wgA (mo h) t W e x, mo h) := by unfold sWeigh; simp only [nI_clamp (show t < 2 ^ 31 by omega), nI_clamp (show W < 2 ^ 31 by omega), nI_clamp (show e < 2 ^ 31 by omega)]; exact cif_t ⟨c5, c17, c29, Or.inl c42⟩
                rw [ee]
                exact ⟨congrArg (fun z : Int32 => some (vI z)) (show _ = wgA (mo h) t W e x from ((cif_f c69).trans ((cif_f c77).trans (cif_t c90))).symm), f1.mo, f1.mk⟩
            ·
              refine g_aload_n (pc' := 81) dX12_weigh_80 rfl rfl ?_
              refine g_getIv (v := nI (wgR (mo h) t W e).1) (pc' := 84) (k := 82) dX12_weigh_81 rfl rfl ck_13 (by decide) fl_X12_489 rfl (e82) ?_
              refine g_goto (tgt := 136) dX12_weigh_84 (by decide) ?_
              refine g_iret dX12_weigh_136 rfl (by decide) (by decide) ?_
              have ee : sWeigh (mo h) (nI t) (nI W) (nI e) x = (wgA (mo h) t W e x, mo h) := by unfold sWeigh; simp only [nI_clamp (show t < 2 ^ 31 by omega), nI_clamp (show W < 2 ^ 31 by omega), nI_clamp (show e < 2 ^ 31 by omega)]; exact cif_t ⟨c5, c17, c29, Or.inl c42⟩
              rw [ee]
              exact ⟨congrArg (fun z : Int32 => some (vI z)) (show _ = wgA (mo h) t W e x from ((cif_f c69).trans (cif_t c77)).symm), f1.mo, f1.mk⟩
          ·
            refine g_bipush (v := -2) (pc' := 74) dX12_weigh_72 rfl (by decide) ?_
            refine g_iret dX12_weigh_74 rfl (by decide) (by decide) ?_
            have ee : sWeigh (mo h) (nI t) (nI W) (nI e) x = (wgA (mo h) t W e x, mo h) := by unfold sWeigh; simp only [nI_clamp (show t < 2 ^ 31 by omega), nI_clamp (show W < 2 ^ 31 by omega), nI_clamp (show e < 2 ^ 31 by omega)]; exact cif_t ⟨c5, c17, c29, Or.inl c42⟩
            rw [ee]
            exact ⟨congrArg (fun z : Int32 => some (vI z)) (show _ = wgA (mo h) t W e x from (cif_t c69).symm), f1.mo, f1.mk⟩
        ·
          refine g_iload (pc' := 47) dX12_weigh_45 rfl rfl ?_
          refine g_bipushN (n := 10) (pc' := 49) dX12_weigh_47 rfl (by decide) ?_
          refine g_isub (pc' := 50) dX12_weigh_49 rfl ?_
          refine g_invS (pc' := 53) (cm_isSort hok _) dX12_weigh_50 rfl ml_X12_234 st_X12_isSort in_X12 co_X12_isSort pd_X12_isSort rfl (by omega) (by decide) ⟨by decide, by decide⟩ (Nat.le_of_ble_eq_true rfl) ?_
          rintro _ _ ⟨rfl, rfl⟩ -
          refine g_ifB_ne (tgt := 58) (pc' := 56) dX12_weigh_53 rfl (by decide) (fun c53 => ?_) (fun c53 => ?_)
          ·
            refine g_aload_n (pc' := 59) dX12_weigh_58 rfl rfl ?_
            refine g_iload_n (pc' := 60) dX12_weigh_59 rfl rfl ?_
            refine g_iload_n (pc' := 61) dX12_weigh_60 rfl rfl ?_
            refine g_iload_n (pc' := 62) dX12_weigh_61 rfl rfl ?_
            refine g_invV (pc' := 65) (cm_weighs hok hs hw hx ht hW he) dX12_weigh_62 rfl rfl ck_13 rfl ml_X12_506 im_X12_weighs sl_X12_weighs in_X12 co_X12_weighs pd_X12_weighs rfl (by omega) (by decide) ⟨by decide, by decide⟩ (Nat.le_of_ble_eq_true rfl) ?_
            rintro _ h1 ⟨rfl, f1, e1⟩ -
            obtain ⟨e82, e83, e84, e85, e181⟩ := e1
            have hs1 : Shp h1.2 := by rw [f1.1]; exact hs
            have hs := hs1
            have hle := (wgF_le (gW_le hw hx ht) (w := vW (mo h) t) (B := bgN (mo h) t) (W := W) (e := e) (rx (gW (mo h) t) 0)).1
            have hrx := rx_le (gW_le hw hx ht)
            have hwb : (wgR (mo h) t W e).1 ≤ 117649 := Nat.le_trans hle hrx
            refine g_aload_n (pc' := 66) dX12_weigh_65 rfl rfl ?_
            refine g_getIv (v := nI ((wgR (mo h) t W e).1)) (pc' := 69) (k := 82) dX12_weigh_66 rfl rfl ck_13 (by decide) fl_X12_489 rfl (e82) ?_
            refine g_if_neN (tgt := 75) (pc' := 72) dX12_weigh_69 rfl (by decide) (by omega) (fun c69 => ?_) (fun c69 => ?_)
            ·
              refine g_iload (pc' := 77) dX12_weigh_75 rfl rfl ?_
              refine g_if_ne (tgt := 87) (pc' := 80) dX12_weigh_77 rfl (by decide) (fun c77 => ?_) (fun c77 => ?_)
              ·
                refine g_iload (pc' := 89) dX12_weigh_87 rfl rfl ?_
                refine g_iconstN (n := 1) (pc' := 90) dX12_weigh_89 rfl ?_
                refine g_icmp_ne (tgt := 100) (pc' := 93) dX12_weigh_90 rfl (by decide) (fun c90 => ?_) (fun c90 => ?_)
                ·
                  refine g_iload (pc' := 102) dX12_weigh_100 rfl rfl ?_
                  refine g_iconstN (n := 2) (pc' := 103) dX12_weigh_102 rfl ?_
                  refine g_icmp_ne (tgt := 113) (pc' := 106) dX12_weigh_103 rfl (by decide) (fun c103 => ?_) (fun c103 => ?_)
                  ·
                    refine g_iload (pc' := 115) dX12_weigh_113 rfl rfl ?_
                    refine g_iconstN (n := 3) (pc' := 116) dX12_weigh_115 rfl ?_
                    refine g_icmp_ne (tgt := 126) (pc' := 119) dX12_weigh_116 rfl (by decide) (fun c116 => ?_) (fun c116 => ?_)
                    ·
                      refine g_aload_n (pc' := 127) dX12_weigh_126 rfl rfl ?_
                      refine g_getS (pc' := 130) (k := 81) (b := (181, 0)) dX12_weigh_127 rfl rfl ck_13 (by decide) fl_X12_180 rfl hs rfl ?_
                      refine g_iload (pc' := 132) dX12_weigh_130 rfl rfl ?_
                      refine g_bipushN (n := 10) (pc' := 134) dX12_weigh_132 rfl (by decide) ?_
                      refine g_isub (pc' := 135) dX12_weigh_134 rfl ?_
                      obtain ⟨i, hi, ei⟩ : ∃ i : Nat, i < 6 ∧ x - nI 10 = nI i := by
                        first
                        | exact sort_iff.mp c53
                        | (obtain ⟨j, hj, rfl⟩ := four_iff.mp c42
                           rcases (show j = 0 ∨ j = 1 ∨ j = 2 ∨ j = 3 by omega) with rfl | rfl | rfl | rfl <;> contradiction)
                      rw [ei]
                      refine g_ialdN (pc' := 136) (v := nI (ld (gW (mo h) t) i (wgR (mo h) t W e).2.2.2.2)) dX12_weigh_135 rfl rfl (by decide) (by omega) (e181 c69 i hi) ?_
                      refine g_iret dX12_weigh_136 rfl (by decide) (by decide) ?_
                      have ee : sWeigh (mo h) (nI t) (nI W) (nI e) x = (wgA (mo h) t W e x, mo h) := by unfold sWeigh; simp only [nI_clamp (show t < 2 ^ 31 by omega), nI_clamp (show W < 2 ^ 31 by omega), nI_clamp (show e < 2 ^ 31 by omega)]; exact cif_t ⟨c5, c17, c29, Or.inr c53⟩
                      rw [ee]
                      exact ⟨congrArg (fun z : Int32 => some (vI z)) (show _ = wgA (mo h) t W e x from ((cif_f c69).trans ((cif_f c77).trans ((cif_f c90).trans ((cif_f c103).trans ((cif_f c116).trans (by rw [ei, nI_clamp (by omega)])))))).symm), f1.mo, f1.mk⟩
                    ·
                      refine g_aload_n (pc' := 120) dX12_weigh_119 rfl rfl ?_
                      refine g_getIv (v := nI (wgR (mo h) t W e).2.2.2.1) (pc' := 123) (k := 85) dX12_weigh_120 rfl rfl ck_13 (by decide) fl_X12_498 rfl (e85.trans (cif_f c69)) ?_
                      refine g_goto (tgt := 136) dX12_weigh_123 (by decide) ?_
                      refine g_iret dX12_weigh_136 rfl (by decide) (by decide) ?_
                      have ee : sWeigh (mo h) (nI t) (nI W) (nI e) x = (wgA (mo h) t W e x, mo h) := by unfold sWeigh; simp only [nI_clamp (show t < 2 ^ 31 by omega), nI_clamp (show W < 2 ^ 31 by omega), nI_clamp (show e < 2 ^ 31 by omega)]; exact cif_t ⟨c5, c17, c29, Or.inr c53⟩
                      rw [ee]
                      exact ⟨congrArg (fun z : Int32 => some (vI z)) (show _ = wgA (mo h) t W e x from ((cif_f c69).trans ((cif_f c77).trans ((cif_f c90).trans ((cif_f c103).trans (cif_t c116))))).symm), f1.mo, f1.mk⟩
                  ·
                    refine g_aload_n (pc' := 107) dX12_weigh_106 rfl rfl ?_
                    refine g_getIv (v := nI 63 &&& ((wgR (mo h) t W e).2.2.1 ^^^ (-1))) (pc' := 110) (k := 84) dX12_weigh_107 rfl rfl ck_13 (by decide) fl_X12_495 rfl (e84) ?_
                    refine g_goto (tgt := 136) dX12_weigh_110 (by decide) ?_
                    refine g_iret dX12_weigh_136 rfl (by decide) (by decide) ?_
                    have ee : sWeigh (mo h) (nI t) (nI W) (nI e) x = (wgA (mo h) t W e x, mo h) := by unfold sWeigh; simp only [nI_clamp (show t < 2 ^ 31 by omega), nI_clamp (show W < 2 ^ 31 by omega), nI_clamp (show e < 2 ^ 31 by omega)]; exact cif_t ⟨c5, c17, c29, Or.inr c53⟩
                    rw [ee]
                    exact ⟨congrArg (fun z : Int32 => some (vI z)) (show _ = wgA (mo h) t W e x from ((cif_f c69).trans ((cif_f c77).trans ((cif_f c90).trans (cif_t c103)))).symm), f1.mo, f1.mk⟩
                ·
                  refine g_aload_n (pc' := 94) dX12_weigh_93 rfl rfl ?_
                  refine g_getIv (v := nI 63 &&& ((wgR (mo h) t W e).2.1 ^^^ (-1))) (pc' := 97) (k := 83) dX12_weigh_94 rfl rfl ck_13 (by decide) fl_X12_492 rfl (e83) ?_
                  refine g_goto (tgt := 136) dX12_weigh_97 (by decide) ?_
                  refine g_iret dX12_weigh_136 rfl (by decide) (by decide) ?_
                  have ee : sWeigh (mo h) (nI t) (nI W) (nI e) x = (wgA (mo h) t W e x, mo h) := by unfold sWeigh; simp only [nI_clamp (show t < 2 ^ 31 by omega), nI_clamp (show W < 2 ^ 31 by omega), nI_clamp (show e < 2 ^ 31 by omega)]; exact cif_t ⟨c5, c17, c29, Or.inr c53⟩
                  rw [ee]
                  exact ⟨congrArg (fun z : Int32 => some (vI z)) (show _ = wgA (mo h) t W e x from ((cif_f c69).trans ((cif_f c77).trans (cif_t c90))).symm), f1.mo, f1.mk⟩
              ·
                refine g_aload_n (pc' := 81) dX12_weigh_80 rfl rfl ?_
                refine g_getIv (v := nI (wgR (mo h) t W e).1) (pc' := 84) (k := 82) dX12_weigh_81 rfl rfl ck_13 (by decide) fl_X12_489 rfl (e82) ?_
                refine g_goto (tgt := 136) dX12_weigh_84 (by decide) ?_
                refine g_iret dX12_weigh_136 rfl (by decide) (by decide) ?_
                have ee : sWeigh (mo h) (nI t) (nI W) (nI e) x = (wgA (mo h) t W e x, mo h) := by unfold sWeigh; simp only [nI_clamp (show t < 2 ^ 31 by omega), nI_clamp (show W < 2 ^ 31 by omega), nI_clamp (show e < 2 ^ 31 by omega)]; exact cif_t ⟨c5, c17, c29, Or.inr c53⟩
                rw [ee]
                exact ⟨congrArg (fun z : Int32 => some (vI z)) (show _ = wgA (mo h) t W e x from ((cif_f c69).trans (cif_t c77)).symm), f1.mo, f1.mk⟩
            ·
              refine g_bipush (v := -2) (pc' := 74) dX12_weigh_72 rfl (by decide) ?_
              refine g_iret dX12_weigh_74 rfl (by decide) (by decide) ?_
              have ee : sWeigh (mo h) (nI t) (nI W) (nI e) x = (wgA (mo h) t W e x, mo h) := by unfold sWeigh; simp only [nI_clamp (show t < 2 ^ 31 by omega), nI_clamp (show W < 2 ^ 31 by omega), nI_clamp (show e < 2 ^ 31 by omega)]; exact cif_t ⟨c5, c17, c29, Or.inr c53⟩
              rw [ee]
              exact ⟨congrArg (fun z : Int32 => some (vI z)) (show _ = wgA (mo h) t W e x from (cif_t c69).symm), f1.mo, f1.mk⟩
          ·
            refine g_iconst (v := -1) (pc' := 57) dX12_weigh_56 rfl (by decide) ?_
            refine g_iret dX12_weigh_57 rfl (by decide) (by decide) ?_
            have e : sWeigh (mo h) (nI t) (nI W) (nI e) x = (-1, mo h) := cif_f (fun z => z.2.2.2.elim c42 c53)
            rw [e]
            exact ⟨rfl, rfl, Mk.rf h⟩
