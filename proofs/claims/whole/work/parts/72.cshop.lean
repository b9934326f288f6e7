theorem lt2_iff {m : St} (hx : Wx m) {t : Nat} (ht : t < nT m) : m 118 t < nI 2 ↔ m 118 t = 0 ∨ m 118 t = nI 1 := by
  obtain ⟨j, hj, e⟩ := rng (n := 3) rfl (by decide) (hx.wh t ht)
  rw [e, nI_ltI (by omega) (by decide), nI_eq0 (by omega), nI_eq (by omega) (by decide)]
  omega
set_option maxRecDepth 4000 in
theorem lx_usable {E : En} (hok : EOK E) {h h0 : Hp} {m : St} (hc : Cp m h) (hw : Wf m) (hx : Wx m) {k : Nat} (hk : k < nK m) {d : Nat} (hd : 4 ≤ d) {Q : Option V → Hp → Prop} (hQ : Q (some (vI (nI (th m k)))) h) : ∀ n t : Nat, t ≤ nT m → nT m - t = n → G E m_X11_usableToys d 0 0 Q h0 4 [some (vR TH), some (vR (2, k)), some (vI (nI (cnt (fun t => kd m t = k ∧ m 118 t < nI 2 ∧ ¬ isRec m t) t))), some (vI (nI t)), none] [] (h) 0 0 := by
  have hs := hc.s
  have hKb := hw.k.2
  have hTb := hw.t.2
  have hFb := hw.f.2
  have hRb := hw.r.2
  have hGb := hw.g.2
  have hAb := hw.a.2
  have hTlb := hw.tl.2
  have hNwb := hw.w.2
  intro n
  induction n with
  | zero =>
    intro t h1 h2
    refine g_iload_n (pc' := 5) dX11_usableToys_4 rfl rfl ?_
    refine g_aload_n (pc' := 6) dX11_usableToys_5 rfl rfl ?_
    refine g_getS (pc' := 9) (k := 11) (b := (13, 1)) dX11_usableToys_6 rfl rfl ck_12 (by decide) fl_X11_35 rfl hs rfl ?_
    refine g_invV (pc' := 12) (ls_size hok hc.c6.1) dX11_usableToys_9 rfl rfl ck_0 rfl ml_X11_103 im_Jx4a65c_size_8abf5 sl_Jx4a65c_size_8abf5 in_Jx4a65c co_Jx4a65c_size_8abf5 pd_Jx4a65c_size_8abf5 rfl (by omega) (by decide) ⟨by decide, by decide⟩ (Nat.le_of_ble_eq_true rfl) ?_
    rintro _ _ ⟨rfl, rfl⟩ -
    refine g_icmp_geN (tgt := 72) (pc' := 15) dX11_usableToys_12 rfl (by decide) (by omega) (by omega) (fun c12 => ?_) (fun c12 => ?_)
    ·
      refine g_iload_n (pc' := 73) dX11_usableToys_72 rfl rfl ?_
      refine g_iret dX11_usableToys_73 rfl (by decide) (by decide) ?_
      have e : t = nT m := by omega
      subst e
      exact hQ
    · exact absurd c12 (by omega)
  | succ n ih =>
    intro t h1 h2
    refine g_iload_n (pc' := 5) dX11_usableToys_4 rfl rfl ?_
    refine g_aload_n (pc' := 6) dX11_usableToys_5 rfl rfl ?_
    refine g_getS (pc' := 9) (k := 11) (b := (13, 1)) dX11_usableToys_6 rfl rfl ck_12 (by decide) fl_X11_35 rfl hs rfl ?_
    refine g_invV (pc' := 12) (ls_size hok hc.c6.1) dX11_usableToys_9 rfl rfl ck_0 rfl ml_X11_103 im_Jx4a65c_size_8abf5 sl_Jx4a65c_size_8abf5 in_Jx4a65c co_Jx4a65c_size_8abf5 pd_Jx4a65c_size_8abf5 rfl (by omega) (by decide) ⟨by decide, by decide⟩ (Nat.le_of_ble_eq_true rfl) ?_
    rintro _ _ ⟨rfl, rfl⟩ -
    refine g_icmp_geN (tgt := 72) (pc' := 15) dX11_usableToys_12 rfl (by decide) (by omega) (by omega) (fun c12 => ?_) (fun c12 => ?_)
    · exact absurd c12 (by omega)
    ·
      refine g_aload_n (pc' := 16) dX11_usableToys_15 rfl rfl ?_
      refine g_getS (pc' := 19) (k := 11) (b := (13, 1)) dX11_usableToys_16 rfl rfl ck_12 (by decide) fl_X11_35 rfl hs rfl ?_
      refine g_iload_n (pc' := 20) dX11_usableToys_19 rfl rfl ?_
      refine g_invV (pc' := 23) (ls_get hok hc.c6.1 (j := t) (by omega) (by omega)) dX11_usableToys_20 rfl rfl ck_0 rfl ml_X11_324 im_Jx4a65c_get_915e3 sl_Jx4a65c_get_915e3 in_Jx4a65c co_Jx4a65c_get_915e3 pd_Jx4a65c_get_915e3 rfl (by omega) (by decide) ⟨by decide, by decide⟩ (Nat.le_of_ble_eq_true rfl) ?_
      rintro _ _ ⟨rfl, rfl⟩ -
      refine g_cast (pc' := 26) dX11_usableToys_23 rfl rfl ck_9 cl_X11_133 ?_
      refine g_astore (pc' := 28) dX11_usableToys_26 rfl (by decide) rfl ?_
      try simp only [List.set]
      refine g_aload (pc' := 30) dX11_usableToys_28 rfl rfl ?_
      refine g_getR (pc' := 33) (k := 1) (r := some (2, kd m t)) dX11_usableToys_30 rfl rfl ck_9 (by decide) fl_X11_203 rfl ((hc.c6.2.1 _ (by omega)).1) ?_
      refine g_aload_n (pc' := 34) dX11_usableToys_33 rfl rfl ?_
      refine g_acmp_ne (tgt := 66) (pc' := 37) dX11_usableToys_34 rfl (by decide) (Nat.le_of_ble_eq_true rfl) (Nat.le_of_ble_eq_true rfl) (fun c34 => ?_) (fun c34 => ?_)
      ·
        refine g_iincN (k := 1) (pc' := 69) dX11_usableToys_66 rfl rfl (by decide) rfl ?_
        try simp only [List.set]
        refine g_goto (tgt := 4) dX11_usableToys_69 (by decide) ?_
        refine G.drop 4 ?_
        simp only [List.set]
        have q := ih (t + 1) (by omega) (by omega)
        rw [cnt_f (p := (fun t => kd m t = k ∧ m 118 t < nI 2 ∧ ¬ isRec m t)) (fun z => c34 (by rw [z.1])), Nat.add_zero] at q
        exact q
      ·
        refine g_aload (pc' := 39) dX11_usableToys_37 rfl rfl ?_
        refine g_getIv (v := m 118 (t)) (pc' := 42) (k := 7) dX11_usableToys_39 rfl rfl ck_9 (by decide) fl_X11_264 rfl (hc.t7 (t := t) (by omega)) ?_
        refine g_if_eq (tgt := 54) (pc' := 45) dX11_usableToys_42 rfl (by decide) (fun c42 => ?_) (fun c42 => ?_)
        ·
          refine g_aload_n (pc' := 55) dX11_usableToys_54 rfl rfl ?_
          refine g_aload (pc' := 57) dX11_usableToys_55 rfl rfl ?_
          refine g_invV (pc' := 60) (cx_isRecalled hok hc hw (t := t) (by omega)) dX11_usableToys_57 rfl rfl ck_12 rfl ml_X11_280 im_X11_isRecalled sl_X11_isRecalled in_X11 co_X11_isRecalled pd_X11_isRecalled rfl (by omega) (by decide) ⟨by decide, by decide⟩ (Nat.le_of_ble_eq_true rfl) ?_
          rintro _ _ ⟨rfl, rfl⟩ -
          refine g_ifB_ne (tgt := 66) (pc' := 63) dX11_usableToys_60 rfl (by decide) (fun c60 => ?_) (fun c60 => ?_)
          ·
            refine g_iincN (k := 1) (pc' := 69) dX11_usableToys_66 rfl rfl (by decide) rfl ?_
            try simp only [List.set]
            refine g_goto (tgt := 4) dX11_usableToys_69 (by decide) ?_
            refine G.drop 4 ?_
            simp only [List.set]
            have q := ih (t + 1) (by omega) (by omega)
            rw [cnt_f (p := (fun t => kd m t = k ∧ m 118 t < nI 2 ∧ ¬ isRec m t)) (fun z => z.2.2 c60), Nat.add_zero] at q
            exact q
          ·
            refine g_iincN (k := 1) (pc' := 66) dX11_usableToys_63 rfl rfl (by decide) rfl ?_
            try simp only [List.set]
            refine g_iincN (k := 1) (pc' := 69) dX11_usableToys_66 rfl rfl (by decide) rfl ?_
            try simp only [List.set]
            refine g_goto (tgt := 4) dX11_usableToys_69 (by decide) ?_
            refine G.drop 4 ?_
            simp only [List.set]
            have q := ih (t + 1) (by omega) (by omega)
            rw [cnt_t (p := (fun t => kd m t = k ∧ m 118 t < nI 2 ∧ ¬ isRec m t)) ⟨congrArg Prod.snd c34, (lt2_iff hx (show t < nT m by omega)).mpr (Or.inl c42), c60⟩] at q
            exact q
        ·
          refine g_aload (pc' := 47) dX11_usableToys_45 rfl rfl ?_
          refine g_getIv (v := m 118 (t)) (pc' := 50) (k := 7) dX11_usableToys_47 rfl rfl ck_9 (by decide) fl_X11_264 rfl (hc.t7 (t := t) (by omega)) ?_
          refine g_iconstN (n := 1) (pc' := 51) dX11_usableToys_50 rfl ?_
          refine g_icmp_ne (tgt := 66) (pc' := 54) dX11_usableToys_51 rfl (by decide) (fun c51 => ?_) (fun c51 => ?_)
          ·
            refine g_iincN (k := 1) (pc' := 69) dX11_usableToys_66 rfl rfl (by decide) rfl ?_
            try simp only [List.set]
            refine g_goto (tgt := 4) dX11_usableToys_69 (by decide) ?_
            refine G.drop 4 ?_
            simp only [List.set]
            have q := ih (t + 1) (by omega) (by omega)
            rw [cnt_f (p := (fun t => kd m t = k ∧ m 118 t < nI 2 ∧ ¬ isRec m t)) (fun z => ((lt2_iff hx (show t < nT m by omega)).mp z.2.1).elim c42 c51), Nat.add_zero] at q
            exact q
          ·
            refine g_aload_n (pc' := 55) dX11_usableToys_54 rfl rfl ?_
            refine g_aload (pc' := 57) dX11_usableToys_55 rfl rfl ?_
            refine g_invV (pc' := 60) (cx_isRecalled hok hc hw (t := t) (by omega)) dX11_usableToys_57 rfl rfl ck_12 rfl ml_X11_280 im_X11_isRecalled sl_X11_isRecalled in_X11 co_X11_isRecalled pd_X11_isRecalled rfl (by omega) (by decide) ⟨by decide, by decide⟩ (Nat.le_of_ble_eq_true rfl) ?_
            rintro _ _ ⟨rfl, rfl⟩ -
            refine g_ifB_ne (tgt := 66) (pc' := 63) dX11_usableToys_60 rfl (by decide) (fun c60 => ?_) (fun c60 => ?_)
            ·
              refine g_iincN (k := 1) (pc' := 69) dX11_usableToys_66 rfl rfl (by decide) rfl ?_
              try simp only [List.set]
              refine g_goto (tgt := 4) dX11_usableToys_69 (by decide) ?_
              refine G.drop 4 ?_
              simp only [List.set]
              have q := ih (t + 1) (by omega) (by omega)
              rw [cnt_f (p := (fun t => kd m t = k ∧ m 118 t < nI 2 ∧ ¬ isRec m t)) (fun z => z.2.2 c60), Nat.add_zero] at q
              exact q
            ·
              refine g_iincN (k := 1) (pc' := 66) dX11_usableToys_63 rfl rfl (by decide) rfl ?_
              try simp only [List.set]
              refine g_iincN (k := 1) (pc' := 69) dX11_usableToys_66 rfl rfl (by decide) rfl ?_
              try simp only [List.set]
              refine g_goto (tgt := 4) dX11_usableToys_69 (by decide) ?_
              refine G.drop 4 ?_
              simp only [List.set]
              have q := ih (t + 1) (by omega) (by omega)
              rw [cnt_t (p := (fun t => kd m t = k ∧ m 118 t < nI 2 ∧ ¬ isRec m t)) ⟨congrArg Prod.snd c34, (lt2_iff hx (show t < nT m by omega)).mpr (Or.inr c51), c60⟩] at q
              exact q
set_option maxRecDepth 4000 in
theorem cx_usable {E : En} (hok : EOK E) {h : Hp} {m : St} (hc : Cp m h) (hw : Wf m) (hx : Wx m) {k : Nat} (hk : k < nK m) : Call E m_X11_usableToys 4 0 0 [vR TH, vR (2, k)] h (fun r0 h' => r0 = some (vI (nI (th m k))) ∧ h = h') := by
  have hs := hc.s
  have hKb := hw.k.2
  have hTb := hw.t.2
  have hFb := hw.f.2
  have hRb := hw.r.2
  have hGb := hw.g.2
  have hAb := hw.a.2
  have hTlb := hw.tl.2
  have hNwb := hw.w.2
  refine Call.enter hok (by decide) (Nat.le_of_ble_eq_true rfl) ?_
  show G E m_X11_usableToys 4 0 0 _ h 0 [some (vR TH), some (vR (2, k)), none, none, none] [] h 0 0
  refine g_iconstN (n := 0) (pc' := 1) dX11_usableToys_0 rfl ?_
  refine g_istore_n (pc' := 2) dX11_usableToys_1 rfl (by decide) rfl ?_
  try simp only [List.set]
  refine g_iconstN (n := 0) (pc' := 3) dX11_usableToys_2 rfl ?_
  refine g_istore_n (pc' := 4) dX11_usableToys_3 rfl (by decide) rfl ?_
  try simp only [List.set]
  exact lx_usable hok hc hw hx hk (Nat.le_refl _) ⟨rfl, rfl⟩ _ 0 (Nat.zero_le _) rfl
def sbH (h : Hp) (a : Int32) : Hp := wI (wI (wI (wI (wI h (10, 0) 5 (nI 0)) (10, 0) 6 a) (10, 0) 7 (nI 0)) (10, 0) 8 (-1)) (10, 0) 9 (nI 0)
theorem sv_min {a b : Nat} (ha : a < 100000) (hb : b < 100000) : (if nI a < nI b then nI a else nI b) = nI (cif (a < b) a b) := by
  by_cases q : a < b
  · rw [if_pos ((nI_ltI (by omega) (by omega)).mpr q), cif_t q]
  · rw [if_neg (fun z => q ((nI_ltI (by omega) (by omega)).mp z)), cif_f q]
/-- an offer -/
def soH (h : Hp) (k : Nat) (p : Int32) (f : Nat → Int32) (s : Int32) : Hp := wI (wI (wN (wI h (49, 0) k p) (51, k) 0 f 4) (10, 0) 7 s) (10, 0) 5 (nI (k + 1))
set_option maxRecDepth 4000 in
theorem cx_sbegin {E : En} (hok : EOK E) {h : Hp} (a : Int32) : Call E m_X7_begin 0 0 0 [vR (10, 0), vI a] h (fun r h' => r = none ∧ sbH h a = h') := by
  refine Call.enter hok (by decide) (Nat.le_of_ble_eq_true rfl) ?_
  show G E m_X7_begin 0 0 0 _ h 0 [some (vR (10, 0)), some (vI a)] [] h 0 0
  refine g_aload_n (pc' := 1) dX7_begin_0 rfl rfl ?_
  refine g_iconstN (n := 0) (pc' := 2) dX7_begin_1 rfl ?_
  refine g_putI (pc' := 5) (k := 5) dX7_begin_2 rfl rfl ck_8 (by decide) fl_X7_29 rfl rfl rfl rfl ?_
  refine g_aload_n (pc' := 6) dX7_begin_5 rfl rfl ?_
  refine g_iload_n (pc' := 7) dX7_begin_6 rfl rfl ?_
  refine g_putI (pc' := 10) (k := 6) dX7_begin_7 rfl rfl ck_8 (by decide) fl_X7_33 rfl rfl rfl rfl ?_
  refine g_aload_n (pc' := 11) dX7_begin_10 rfl rfl ?_
  refine g_iconstN (n := 0) (pc' := 12) dX7_begin_11 rfl ?_
  refine g_putI (pc' := 15) (k := 7) dX7_begin_12 rfl rfl ck_8 (by decide) fl_X7_36 rfl rfl rfl rfl ?_
  refine g_aload_n (pc' := 16) dX7_begin_15 rfl rfl ?_
  refine g_iconst (v := -1) (pc' := 17) dX7_begin_16 rfl (by decide) ?_
  refine g_putI (pc' := 20) (k := 8) dX7_begin_17 rfl rfl ck_8 (by decide) fl_X7_39 rfl rfl rfl rfl ?_
  refine g_aload_n (pc' := 21) dX7_begin_20 rfl rfl ?_
  refine g_iconstN (n := 0) (pc' := 22) dX7_begin_21 rfl ?_
  refine g_putI (pc' := 25) (k := 9) dX7_begin_22 rfl rfl ck_8 (by decide) fl_X7_42 rfl rfl rfl rfl ?_
  refine g_vret dX7_begin_25 rfl (by decide) (by decide) ?_
  exact ⟨rfl, rfl⟩
set_option maxRecDepth 4000 in
theorem lx_soffer {E : En} (hok : EOK E) {h h0 : Hp} (hs0 : Shp h.2) {k wt tt w sn : Nat} (hk : k < 8) (hwt : wt ≤ 10) (htt : tt ≤ 16) (hw99 : w ≤ 99) (h5 : h.1 (10, 0) 5 = nI k) (h7 : h.1 (10, 0) 7 = nI sn) (hrf : ∀ k, k < 8 → h.2.1 (50, 0) k = some (51, k)) (p : Int32) {d : Nat} (hd : 1 ≤ d) {Q : Option V → Hp → Prop} (hQ : Q none (soH h k p (fun n => nI (cif ((tt + n) * w / 3 < wt) ((tt + n) * w / 3) wt)) (nI (sn + cif ((tt + 0) * w / 3 < wt) ((tt + 0) * w / 3) wt)))) : ∀ c n : Nat, n ≤ 4 → 4 - n = c → G E m_X7_offer d 0 0 Q h0 23 [some (vR (10, 0)), some (vI p), some (vI (nI wt)), some (vI (nI tt)), some (vI (nI w)), some (vI (nI n))] [] (wN (wI h (49, 0) k p) (51, k) 0 (fun n => nI (cif ((tt + n) * w / 3 < wt) ((tt + n) * w / 3) wt)) n) 0 0 := by
  intro c
  induction c with
  | zero =>
    intro n h1 h2
    have hs : Shp (wN (wI h (49, 0) k p) (51, k) 0 (fun n => nI (cif ((tt + n) * w / 3 < wt) ((tt + n) * w / 3) wt)) n).2 := by rw [wN_2]; exact hs0
    have e4 : n = 4 := by omega
    subst e4
    refine g_iload (pc' := 25) dX7_offer_23 rfl rfl ?_
    refine g_iconstN (n := 3) (pc' := 26) dX7_offer_25 rfl ?_
    refine g_icmp_gtN (tgt := 60) (pc' := 29) dX7_offer_26 rfl (by decide) (by decide) (by decide) (fun _ => ?_) (fun q => False.elim (by revert q; decide))
    refine g_aload_n (pc' := 61) dX7_offer_60 rfl rfl ?_
    refine g_dup (pc' := 62) dX7_offer_61 rfl rfl ?_
    refine g_getIv (v := nI (sn)) (pc' := 65) (k := 7) dX7_offer_62 rfl rfl ck_8 (by decide) fl_X7_36 rfl ((congrFun (wN_off _ _ _ _ (ad_ne (show (10 : Nat) ≠ 51 by decide)) 4) 7).trans h7) ?_
    refine g_aload_n (pc' := 66) dX7_offer_65 rfl rfl ?_
    refine g_getS (pc' := 69) (k := 1) (b := (50, 0)) dX7_offer_66 rfl rfl ck_8 (by decide) fl_X7_17 rfl hs rfl ?_
    refine g_aload_n (pc' := 70) dX7_offer_69 rfl rfl ?_
    refine g_getIv (v := nI (k)) (pc' := 73) (k := 5) dX7_offer_70 rfl rfl ck_8 (by decide) fl_X7_29 rfl ((congrFun (wN_off _ _ _ _ (ad_ne (show (10 : Nat) ≠ 51 by decide)) 4) 5).trans h5) ?_
    refine g_aaldI (r := some (51, k)) (pc' := 74) dX7_offer_73 rfl (rfl) (vp_in_nI (by omega) (by omega)) (by rw [nI_clamp (show k < 2 ^ 31 by omega), wN_2]; exact hrf k hk) ?_
    refine g_iconstN (n := 0) (pc' := 75) dX7_offer_74 rfl ?_
    refine g_ialdN (pc' := 76) (v := nI (cif ((tt + 0) * w / 3 < wt) ((tt + 0) * w / 3) wt)) dX7_offer_75 rfl rfl (by decide) (by omega) (wN_at (wI h (49, 0) k p) (51, k) 0 (fun n => nI (cif ((tt + n) * w / 3 < wt) ((tt + n) * w / 3) wt)) 4 (j := 0) (by decide)) ?_
    refine g_iaddN (pc' := 77) dX7_offer_76 rfl ?_
    refine g_putI (pc' := 80) (k := 7) dX7_offer_77 rfl rfl ck_8 (by decide) fl_X7_36 rfl rfl rfl rfl ?_
    refine g_aload_n (pc' := 81) dX7_offer_80 rfl rfl ?_
    refine g_dup (pc' := 82) dX7_offer_81 rfl rfl ?_
    refine g_getIv (v := nI (k)) (pc' := 85) (k := 5) dX7_offer_82 rfl rfl ck_8 (by decide) fl_X7_29 rfl ((wI_j (show (5 : Nat) ≠ 7 by decide)).trans ((congrFun (wN_off _ _ _ _ (ad_ne (show (10 : Nat) ≠ 51 by decide)) 4) 5).trans h5)) ?_
    refine g_iconstN (n := 1) (pc' := 86) dX7_offer_85 rfl ?_
    refine g_iaddN (pc' := 87) dX7_offer_86 rfl ?_
    refine g_putI (pc' := 90) (k := 5) dX7_offer_87 rfl rfl ck_8 (by decide) fl_X7_29 rfl rfl rfl rfl ?_
    refine g_vret dX7_offer_90 rfl (by decide) (by decide) ?_
    exact hQ
  | succ c ih =>
    intro n h1 h2
    have hs : Shp (wN (wI h (49, 0) k p) (51, k) 0 (fun n => nI (cif ((tt + n) * w / 3 < wt) ((tt + n) * w / 3) wt)) n).2 := by rw [wN_2]; exact hs0
    have hml : (tt + n) * w ≤ 19 * 99 := Nat.mul_le_mul (by omega) hw99
    refine g_iload (pc' := 25) dX7_offer_23 rfl rfl ?_
    refine g_iconstN (n := 3) (pc' := 26) dX7_offer_25 rfl ?_
    refine g_icmp_gtN (tgt := 60) (pc' := 29) dX7_offer_26 rfl (by decide) (by omega) (by omega) (fun c26 => ?_) (fun c26 => ?_)
    · exact absurd c26 (by omega)
    ·
      refine g_aload_n (pc' := 30) dX7_offer_29 rfl rfl ?_
      refine g_getS (pc' := 33) (k := 1) (b := (50, 0)) dX7_offer_30 rfl rfl ck_8 (by decide) fl_X7_17 rfl hs rfl ?_
      refine g_aload_n (pc' := 34) dX7_offer_33 rfl rfl ?_
      refine g_getIv (v := nI (k)) (pc' := 37) (k := 5) dX7_offer_34 rfl rfl ck_8 (by decide) fl_X7_29 rfl ((congrFun (wN_off _ _ _ _ (ad_ne (show (10 : Nat) ≠ 51 by decide)) n) 5).trans h5) ?_
      refine g_aaldI (r := some (51, k)) (pc' := 38) dX7_offer_37 rfl (rfl) (vp_in_nI (by omega) (by omega)) (by rw [nI_clamp (show k < 2 ^ 31 by omega), wN_2]; exact hrf k hk) ?_
      refine g_iload (pc' := 40) dX7_offer_38 rfl rfl ?_
      refine g_iload_n (pc' := 41) dX7_offer_40 rfl rfl ?_
      refine g_iload_n (pc' := 42) dX7_offer_41 rfl rfl ?_
      refine g_iload (pc' := 44) dX7_offer_42 rfl rfl ?_
      refine g_iaddN (pc' := 45) dX7_offer_44 rfl ?_
      refine g_iload (pc' := 47) dX7_offer_45 rfl rfl ?_
      refine g_imulN (pc' := 48) dX7_offer_47 rfl ?_
      refine g_iconstN (n := 3) (pc' := 49) dX7_offer_48 rfl ?_
      refine g_idivN (pc' := 50) dX7_offer_49 rfl (by omega) (by omega) (by omega) ?_
      refine g_min (pc' := 53) dX7_offer_50 rfl ml_X7_45 mn_s in_J9 mn_c (by omega) (by decide) (by decide) (Nat.le_of_ble_eq_true rfl) ?_
      rw [sv_min (by omega) (by omega)]
      refine g_iastN (pc' := 54) dX7_offer_53 rfl rfl (by decide) (by omega) ?_
      refine g_iincN (k := 1) (pc' := 57) dX7_offer_54 rfl rfl (by decide) rfl ?_
      try simp only [List.set]
      refine g_goto (tgt := 23) dX7_offer_57 (by decide) ?_
      have q := ih (n + 1) (by omega) (by omega)
      rw [wN_0s] at q
      exact q
set_option maxRecDepth 4000 in
theorem cx_soffer {E : En} (hok : EOK E) {h : Hp} (hs : Shp h.2) {k wt tt w sn : Nat} (hk : k < 8) (hwt : wt ≤ 10) (htt : tt ≤ 16) (hw99 : w ≤ 99) (h5 : h.1 (10, 0) 5 = nI k) (h7 : h.1 (10, 0) 7 = nI sn) (hrf : ∀ k, k < 8 → h.2.1 (50, 0) k = some (51, k)) (p : Int32) : Call E m_X7_offer 1 0 0 [vR (10, 0), vI p, vI (nI wt), vI (nI tt), vI (nI w)] h (fun r h' => r = none ∧ soH h k p (fun n => nI (cif ((tt + n) * w / 3 < wt) ((tt + n) * w / 3) wt)) (nI (sn + cif ((tt + 0) * w / 3 < wt) ((tt + 0) * w / 3) wt)) = h') := by
  refine Call.enter hok (by decide) (Nat.le_of_ble_eq_true rfl) ?_
  show G E m_X7_offer 1 0 0 _ h 0 [some (vR (10, 0)), some (vI p), some (vI (nI wt)), some (vI (nI tt)), some (vI (nI w)), none] [] h 0 0
  refine g_aload_n (pc' := 1) dX7_offer_0 rfl rfl ?_
  refine g_getIv (v := nI (k)) (pc' := 4) (k := 5) dX7_offer_1 rfl rfl ck_8 (by decide) fl_X7_29 rfl (h5) ?_
  refine g_bipushN (n := 8) (pc' := 6) dX7_offer_4 rfl (by decide) ?_
  refine g_icmp_ltN (tgt := 10) (pc' := 9) dX7_offer_6 rfl (by decide) (by omega) (by omega) (fun c6 => ?_) (fun c6 => ?_)
  ·
    refine g_aload_n (pc' := 11) dX7_offer_10 rfl rfl ?_
    refine g_getS (pc' := 14) (k := 0) (b := (49, 0)) dX7_offer_11 rfl rfl ck_8 (by decide) fl_X7_9 rfl hs rfl ?_
    refine g_aload_n (pc' := 15) dX7_offer_14 rfl rfl ?_
    refine g_getIv (v := nI (k)) (pc' := 18) (k := 5) dX7_offer_15 rfl rfl ck_8 (by decide) fl_X7_29 rfl (h5) ?_
    refine g_iload_n (pc' := 19) dX7_offer_18 rfl rfl ?_
    refine g_iastN (pc' := 20) dX7_offer_19 rfl rfl (by decide) (by omega) ?_
    refine g_iconstN (n := 0) (pc' := 21) dX7_offer_20 rfl ?_
    refine g_istore (pc' := 23) dX7_offer_21 rfl (by decide) rfl ?_
    try simp only [List.set]
    exact lx_soffer hok hs hk hwt htt hw99 h5 h7 hrf p (Nat.le_refl _) ⟨rfl, rfl⟩ _ 0 (Nat.zero_le _) rfl
  · exact absurd hk c6
def ZO (m : St) (w A n : Nat) (h : Hp) : Prop := h.1 (10, 0) 5 = nI n ∧ h.1 (10, 0) 6 = nI A ∧ h.1 (10, 0) 7 = nI (preS m w n 0) ∧ h.1 (10, 0) 8 = -1 ∧ (∀ k, k < n → h.1 (49, 0) k = nI (prN m k) ∧ ∀ j, j < 4 → h.1 (51, k) j = nI (sv m w k j)) ∧ ∀ k, k < 8 → h.2.1 (50, 0) k = some (51, k)
theorem ZO_s {m : St} {w A n : Nat} {h : Hp} (z : ZO m w A n h) : ZO m w A (n + 1) (soH h n (nI (prN m n)) (fun j => nI (sv m w n j)) (nI (preS m w n 0 + sv m w n 0))) := by
  obtain ⟨z1, z2, z3, z4, z5, z6⟩ := z
  have e10 : ∀ j, (soH h n (nI (prN m n)) (fun j => nI (sv m w n j)) (nI (preS m w n 0 + sv m w n 0))).1 (10, 0) j = if j = 5 then nI (n + 1) else if j = 7 then nI (preS m w n 0 + sv m w n 0) else h.1 (10, 0) j := fun j => by
    unfold soH
    rw [wI_at, wI_at, wN_off _ _ _ _ (ad_ne (show (10 : Nat) ≠ 51 by decide)), wI_off _ _ _ _ (10, 0) (by decide)]
    simp
  have e49 : ∀ j, (soH h n (nI (prN m n)) (fun j => nI (sv m w n j)) (nI (preS m w n 0 + sv m w n 0))).1 (49, 0) j = if j = n then nI (prN m n) else h.1 (49, 0) j := fun j => by
    unfold soH
    rw [wI_off _ _ _ _ (49, 0) (by decide), wI_off _ _ _ _ (49, 0) (by decide), wN_off _ _ _ _ (ad_ne (show (49 : Nat) ≠ 51 by decide)), wI_at]
    simp
  have e51 : ∀ k, k ≠ n → (soH h n (nI (prN m n)) (fun j => nI (sv m w n j)) (nI (preS m w n 0 + sv m w n 0))).1 (51, k) = h.1 (51, k) := fun k hk => by
    unfold soH
    rw [wI_off _ _ _ _ (51, k) (ad_ne (show (51 : Nat) ≠ 10 by decide)), wI_off _ _ _ _ (51, k) (ad_ne (show (51 : Nat) ≠ 10 by decide)), wN_off _ _ _ _ (fun q => hk (congrArg Prod.snd q)), wI_off _ _ _ _ (51, k) (ad_ne (show (51 : Nat) ≠ 49 by decide))]
  have e51n : ∀ j, j < 4 → (soH h n (nI (prN m n)) (fun j => nI (sv m w n j)) (nI (preS m w n 0 + sv m w n 0))).1 (51, n) j = nI (sv m w n j) := fun j hj => by
    unfold soH
    rw [wI_off _ _ _ _ (51, n) (ad_ne (show (51 : Nat) ≠ 10 by decide)), wI_off _ _ _ _ (51, n) (ad_ne (show (51 : Nat) ≠ 10 by decide))]
    have q := wN_at (wI h (49, 0) n (nI (prN m n))) (51, n) 0 (fun j => nI (sv m w n j)) 4 hj
    rw [Nat.zero_add] at q
    exact q
  have e2 : (soH h n (nI (prN m n)) (fun j => nI (sv m w n j)) (nI (preS m w n 0 + sv m w n 0))).2 = h.2 := wN_2 (wI h (49, 0) n (nI (prN m n))) (51, n) 0 (fun j => nI (sv m w n j)) 4
  refine ⟨by rw [e10]; rfl, by rw [e10]; exact z2, ?_, by rw [e10]; exact z4, fun k hk => ?_, by rw [e2]; exact z6⟩
  · rw [e10, preS_s, dg_0]; rfl
  · by_cases y : k = n
    · subst y
      exact ⟨by rw [e49, if_pos rfl], e51n⟩
    · rw [e49, if_neg y, e51 k y]
      exact z5 k (by omega)
theorem soH_sc {h h' : Hp} (k : Sc h h') (n : Nat) (p : Int32) (f : Nat → Int32) (s : Int32) : Sc h (soH h' n p f s) := by
  refine ((?_ : Sc h (wN (wI h' (49, 0) n p) (51, n) 0 f 4)).wI rfl).wI rfl
  exact ((((k.wI rfl).wI rfl).wI rfl).wI rfl).wI rfl
theorem soH_13 {h : Hp} (k : C13 h) (n : Nat) (p : Int32) (f : Nat → Int32) (s : Int32) : C13 (soH h n p f s) := k
/-- servedFrom laid down to k -/
def ZF (m : St) (w A k : Nat) (h h' : Hp) : Prop := h'.2 = h.2 ∧ (∀ q, q ≠ (52, 0) → h'.1 q = h.1 q) ∧ ∀ j, k ≤ j → j ≤ nK m → h'.1 (52, 0) j = nI (sF m w j)
set_option maxRecDepth 4000 in
theorem lx_ssearch {E : En} (hok : EOK E) {h h0 : Hp} (hs0 : Shp h.2) {m : St} (hw : Wf m) (hx : Wx m) {w A : Nat} (hA6 : A ≤ 60000) (hz : ZO m w A (nK m) h) {Q : Option V → Hp → Prop} (hQ : ∀ h1, ZB 0 h h1 ∨ True → Sc h h1 → C13 h → C13 h1 → h1.1 (10, 0) 5 = nI (nK m) → h1.1 (10, 0) 7 = nI (sX m w 0) → encB m (buF m w A (q4 (nK m))) h1 → Q none h1) (k13 : C13 h) : ∀ k (h1 : Hp), k ≤ nK m → ZF m w A k h h1 → G E m_X7_search 10 0 0 Q h0 17 [some (vR (10, 0)), some (vI (nI k - nI 1))] [] h1 0 0 := by
  have hKb := hw.k.2
  intro k
  induction k with
  | zero =>
    intro h1 hk zf
    have hs : Shp h1.2 := by rw [zf.1]; exact hs0
    have e10 := zf.2.1 (10, 0) (by decide)
    have zs : ZS m w A h1 := ⟨by rw [e10]; exact hz.1, by rw [e10]; exact hz.2.1, fun k hk => by rw [zf.2.1 (49, 0) (by decide), zf.2.1 (51, k) (ad_ne (show (51 : Nat) ≠ 52 by decide))]; exact hz.2.2.2.2.1 k hk, fun k hk => zf.2.2 k (Nat.zero_le _) hk, by rw [zf.1]; exact hz.2.2.2.2.2⟩
    have q := tf_all (w := w) hok hw hx hA6 (nK m) 0 (Nat.zero_le _) rfl 0 0 h1 (0, sX m w 0, 0) hs rfl (by rw [Nat.zero_add, Nat.sub_zero]; exact Nat.le_refl _) zs (fun j hj => absurd hj (Nat.not_lt_zero j)) ⟨q4_pos _, preS_le hw (Nat.le_refl _), Nat.zero_le _⟩ (fun x hx => absurd hx (Nat.not_lt_zero x)) (Or.inr ⟨rfl, rfl, by rw [e10]; exact hz.2.2.2.1⟩)
    have q : Call E m_X7_tryFrom (nK m - 0 + 1) 0 0 [vR (10, 0), vI (nI 0), vI (nI 0), vI (nI 0)] h1 (fun r h' => r = none ∧ ZB 0 h1 h' ∧ encB m (buF m w A (q4 (nK m))) h') := q
    refine g_iload_n (pc' := 18) dX7_search_17 rfl rfl ?_
    refine g_if_lt (tgt := 50) (pc' := 21) dX7_search_18 rfl (by decide) (fun c18 => ?_) (fun c18 => ?_)
    ·
      refine g_aload_n (pc' := 51) dX7_search_50 rfl rfl ?_
      refine g_iconstN (n := 0) (pc' := 52) dX7_search_51 rfl ?_
      refine g_iconstN (n := 0) (pc' := 53) dX7_search_52 rfl ?_
      refine g_iconstN (n := 0) (pc' := 54) dX7_search_53 rfl ?_
      refine g_invV (pc' := 57) (q) dX7_search_54 rfl rfl ck_8 rfl ml_X7_51 im_X7_tryFrom sl_X7_tryFrom in_X7 co_X7_tryFrom pd_X7_tryFrom rfl (by omega) (by decide) ⟨by decide, by decide⟩ (Nat.le_of_ble_eq_true rfl) ?_
      rintro _ h2 ⟨rfl, zb, en⟩ -
      refine g_vret dX7_search_57 rfl (by decide) (by decide) ?_
      have sc1 : Sc h h1 := ⟨zf.1, fun b z => zf.2.1 b (fun y => by rw [y] at z; cases z)⟩
      have sc2 : Sc h1 h2 := ⟨zb.1, fun b z => zb.2.1 b (fun y => by rw [y] at z; cases z) (fun y => by rw [y] at z; cases z) (fun y => by rw [y] at z; cases z)⟩
      refine hQ h2 (Or.inr trivial) (sc1.tr sc2) k13 ?_ ?_ ?_ en
      · unfold C13 at *
        rw [zb.1, zf.1, zb.2.1 (46, 0) (by decide) (by decide) (by decide), zb.2.1 (47, 0) (by decide) (by decide) (by decide), zb.2.1 (48, 0) (by decide) (by decide) (by decide), zb.2.1 (58, 0) (by decide) (by decide) (by decide), zf.2.1 (46, 0) (by decide), zf.2.1 (47, 0) (by decide), zf.2.1 (48, 0) (by decide), zf.2.1 (58, 0) (by decide)]
        exact k13
      · rw [zb.2.2.1 5 (by decide) (by decide), e10]; exact hz.1
      · rw [zb.2.2.1 7 (by decide) (by decide), e10]; exact hz.2.2.1
    · exact absurd (by decide) c18
  | succ k ih =>
    intro h1 hk zf
    have hs : Shp h1.2 := by rw [zf.1]; exact hs0
    have e1 : nI (k + 1) - nI 1 = nI k := nI_pred k
    rw [e1]
    have hkk : k < nK m := hk
    have hs3 := sF_s (w := w) hkk
    have hl1 := sF_le hw w (k + 1)
    have hl2 := sv_le hw w k 3
    have e51 : h1.1 (51, k) = h.1 (51, k) := zf.2.1 (51, k) (ad_ne (show (51 : Nat) ≠ 52 by decide))
    refine g_iload_n (pc' := 18) dX7_search_17 rfl rfl ?_
    refine g_if_lt (tgt := 50) (pc' := 21) dX7_search_18 rfl (by decide) (fun c18 => ?_) (fun c18 => ?_)
    · exact absurd c18 (nI_pos (by omega))
    ·
      refine g_aload_n (pc' := 22) dX7_search_21 rfl rfl ?_
      refine g_getS (pc' := 25) (k := 2) (b := (52, 0)) dX7_search_22 rfl rfl ck_8 (by decide) fl_X7_20 rfl hs rfl ?_
      refine g_iload_n (pc' := 26) dX7_search_25 rfl rfl ?_
      refine g_aload_n (pc' := 27) dX7_search_26 rfl rfl ?_
      refine g_getS (pc' := 30) (k := 2) (b := (52, 0)) dX7_search_27 rfl rfl ck_8 (by decide) fl_X7_20 rfl hs rfl ?_
      refine g_iload_n (pc' := 31) dX7_search_30 rfl rfl ?_
      refine g_iconstN (n := 1) (pc' := 32) dX7_search_31 rfl ?_
      refine g_iaddN (pc' := 33) dX7_search_32 rfl ?_
      refine g_ialdN (pc' := 34) (v := nI (sF m w (k + 1))) dX7_search_33 rfl rfl (by decide) (by omega) (zf.2.2 (k + 1) (Nat.le_refl _) (by omega)) ?_
      refine g_aload_n (pc' := 35) dX7_search_34 rfl rfl ?_
      refine g_getS (pc' := 38) (k := 1) (b := (50, 0)) dX7_search_35 rfl rfl ck_8 (by decide) fl_X7_17 rfl hs rfl ?_
      refine g_iload_n (pc' := 39) dX7_search_38 rfl rfl ?_
      refine g_aaldI (r := some (51, k)) (pc' := 40) dX7_search_39 rfl (rfl) (vp_in_nI (by omega) (by omega)) (by rw [nI_clamp (by omega), zf.1]; exact hz.2.2.2.2.2 k (by omega)) ?_
      refine g_iconstN (n := 3) (pc' := 41) dX7_search_40 rfl ?_
      refine g_ialdN (pc' := 42) (v := nI (sv m w k 3)) dX7_search_41 rfl rfl (by decide) (by omega) (by rw [e51]; exact (hz.2.2.2.2.1 k hkk).2 3 (by decide)) ?_
      refine g_iaddN (pc' := 43) dX7_search_42 rfl ?_
      refine g_iastN (pc' := 44) dX7_search_43 rfl rfl (by decide) (by omega) ?_
      refine g_iinc (v := nI k - nI 1) (pc' := 47) dX7_search_44 rfl rfl (by rw [Int32.sub_eq_add_neg]; rfl) (by decide) rfl ?_
      try simp only [List.set]
      refine g_goto (tgt := 17) dX7_search_47 (by decide) ?_
      refine ih _ (by omega) ⟨zf.1, fun q z => (wI_off _ _ _ _ q z).trans (zf.2.1 q z), fun j h2 h3 => ?_⟩
      rw [wI_at]
      by_cases y : j = k
      · rw [if_pos ⟨rfl, y⟩, y, hs3]
      · rw [if_neg (fun q => y q.2)]
        exact zf.2.2 j (by omega) h3
set_option maxRecDepth 4000 in
theorem cx_ssearch {E : En} (hok : EOK E) {h : Hp} (hs : Shp h.2) {m : St} (hw : Wf m) (hx : Wx m) {w A : Nat} (hA6 : A ≤ 60000) (hz : ZO m w A (nK m) h) (k13 : C13 h) : Call E m_X7_search 10 0 0 [vR (10, 0)] h (fun r h1 => r = none ∧ Sc h h1 ∧ C13 h1 ∧ h1.1 (10, 0) 5 = nI (nK m) ∧ h1.1 (10, 0) 7 = nI (sX m w 0) ∧ encB m (buF m w A (q4 (nK m))) h1) := by
  have hKb := hw.k.2
  refine Call.enter hok (by decide) (Nat.le_of_ble_eq_true rfl) ?_
  show G E m_X7_search 10 0 0 _ h 0 [some (vR (10, 0)), none] [] h 0 0
  refine g_aload_n (pc' := 1) dX7_search_0 rfl rfl ?_
  refine g_getS (pc' := 4) (k := 2) (b := (52, 0)) dX7_search_1 rfl rfl ck_8 (by decide) fl_X7_20 rfl hs rfl ?_
  refine g_aload_n (pc' := 5) dX7_search_4 rfl rfl ?_
  refine g_getIv (v := nI (nK m)) (pc' := 8) (k := 5) dX7_search_5 rfl rfl ck_8 (by decide) fl_X7_29 rfl (hz.1) ?_
  refine g_iconstN (n := 0) (pc' := 9) dX7_search_8 rfl ?_
  refine g_iastN (pc' := 10) dX7_search_9 rfl rfl (by decide) (by omega) ?_
  refine g_aload_n (pc' := 11) dX7_search_10 rfl rfl ?_
  refine g_getIv (v := nI (nK m)) (pc' := 14) (k := 5) dX7_search_11 rfl rfl ck_8 (by decide) fl_X7_29 rfl (hz.1) ?_
  refine g_iconstN (n := 1) (pc' := 15) dX7_search_14 rfl ?_
  refine g_isub (pc' := 16) dX7_search_15 rfl ?_
  refine g_istore_n (pc' := 17) dX7_search_16 rfl (by decide) rfl ?_
  try simp only [List.set]
  refine lx_ssearch hok hs hw hx hA6 hz (fun h1 _ s1 _ k1 a5 a7 en => ⟨rfl, s1, k1, a5, a7, en⟩) k13 _ _ (Nat.le_refl _) ⟨rfl, fun q z => wI_off _ _ _ _ q z, fun j h1 h2 => ?_⟩
  rw [show j = nK m by omega, sF_K]
  simp [wI_at]
