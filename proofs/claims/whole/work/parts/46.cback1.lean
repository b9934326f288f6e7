set_option maxRecDepth 4000 in
theorem lx_couldHave {E : En} (hok : EOK E) {h h0 : Hp} {m : St} (hc : Cp m h) (hw : Wf m) {t : Nat} (ht : t < nT m) {d : Nat} (hd : 0 ≤ d) {Q : Option V → Hp → Prop} (hQ : Q (some (vI (bi (bkOK m t)))) h) : ∀ n s : Nat, s ≤ 6 → 6 - s = n → (∀ j, j < s → m 100 j &&& nI 255 ≤ m 125 (6 * t + j)) → G E m_X8_couldHave d 0 0 Q h0 2 [some (vR (3, t)), some (vR (20, 0)), some (vI (nI s))] [] (h) 0 0 := by
  have hs := hc.s
  have hKb := hw.k.2
  have hTb := hw.t.2
  have hFb := hw.f.2
  have hRb := hw.r.2
  have hGb := hw.g.2
  have hAb := hw.a.2
  have hTlb := hw.tl.2
  have hNwb := hw.w.2
  intro n
  induction n with
  | zero =>
    intro s h1 h2 hi
    refine g_iload_n (pc' := 3) dX8_couldHave_2 rfl rfl ?_
    refine g_bipushN (n := 6) (pc' := 5) dX8_couldHave_3 rfl (by decide) ?_
    refine g_icmp_geN (tgt := 34) (pc' := 8) dX8_couldHave_5 rfl (by decide) (by omega) (by omega) (fun c5 => ?_) (fun c5 => ?_)
    ·
      refine g_iconstN (n := 1) (pc' := 35) dX8_couldHave_34 rfl ?_
      refine g_zret dX8_couldHave_35 rfl (by rfl) (by decide) (by decide) ?_
      rw [bi_t (P := bkOK m t) (fun j q => hi j (by omega))] at hQ
      exact hQ
    · exact absurd c5 (by omega)
  | succ n ih =>
    intro s h1 h2 hi
    refine g_iload_n (pc' := 3) dX8_couldHave_2 rfl rfl ?_
    refine g_bipushN (n := 6) (pc' := 5) dX8_couldHave_3 rfl (by decide) ?_
    refine g_icmp_geN (tgt := 34) (pc' := 8) dX8_couldHave_5 rfl (by decide) (by omega) (by omega) (fun c5 => ?_) (fun c5 => ?_)
    · exact absurd c5 (by omega)
    ·
      refine g_iload_n (pc' := 9) dX8_couldHave_8 rfl rfl ?_
      refine g_aload_n (pc' := 10) dX8_couldHave_9 rfl rfl ?_
      refine g_alen (pc' := 11) (v := nI 220) dX8_couldHave_10 rfl rfl (by decide) rfl ?_
      refine g_icmp_geN (tgt := 34) (pc' := 14) dX8_couldHave_11 rfl (by decide) (by omega) (by omega) (fun c11 => ?_) (fun c11 => ?_)
      · exact absurd c11 (by omega)
      ·
        refine g_aload_n (pc' := 15) dX8_couldHave_14 rfl rfl ?_
        refine g_iload_n (pc' := 16) dX8_couldHave_15 rfl rfl ?_
        refine g_ialdN (pc' := 17) (v := m 100 s &&& nI 255) dX8_couldHave_16 rfl rfl (by decide) (by omega) (hc.c2 s (by omega)) ?_
        refine g_aload_n (pc' := 18) dX8_couldHave_17 rfl rfl ?_
        refine g_getS (pc' := 21) (k := 3) (b := (26, t)) dX8_couldHave_18 rfl rfl ck_9 (by decide) fl_X8_33 rfl hs rfl ?_
        refine g_iload_n (pc' := 22) dX8_couldHave_21 rfl rfl ?_
        refine g_ialdN (pc' := 23) (v := m 125 (6 * t + s)) dX8_couldHave_22 rfl rfl (by decide) (by omega) ((hc.c6.2.1 t ht).2.2 s (by omega)) ?_
        refine g_icmp_le (tgt := 28) (pc' := 26) dX8_couldHave_23 rfl (by decide) (fun c23 => ?_) (fun c23 => ?_)
        ·
          refine g_iincN (k := 1) (pc' := 31) dX8_couldHave_28 rfl rfl (by decide) rfl ?_
          try simp only [List.set]
          refine g_goto (tgt := 2) dX8_couldHave_31 (by decide) ?_
          exact ih (s + 1) (by omega) (by omega) (lt_s hi c23)
        ·
          refine g_iconstN (n := 0) (pc' := 27) dX8_couldHave_26 rfl ?_
          refine g_zret dX8_couldHave_27 rfl (by rfl) (by decide) (by decide) ?_
          rw [bi_f (P := bkOK m t) (fun z => absurd (z s (by omega)) c23)] at hQ
          exact hQ
set_option maxRecDepth 4000 in
theorem cx_couldHave {E : En} (hok : EOK E) {h : Hp} {m : St} (hc : Cp m h) (hw : Wf m) {t : Nat} (ht : t < nT m) : Call E m_X8_couldHave 0 0 0 [vR (3, t), vR (20, 0)] h (fun r0 h' => r0 = some (vI (bi (bkOK m t))) ∧ h = h') := by
  have hs := hc.s
  have hKb := hw.k.2
  have hTb := hw.t.2
  have hFb := hw.f.2
  have hRb := hw.r.2
  have hGb := hw.g.2
  have hAb := hw.a.2
  have hTlb := hw.tl.2
  have hNwb := hw.w.2
  refine Call.enter hok (by decide) (Nat.le_of_ble_eq_true rfl) ?_
  show G E m_X8_couldHave 0 0 0 _ h 0 [some (vR (3, t)), some (vR (20, 0)), none] [] h 0 0
  refine g_iconstN (n := 0) (pc' := 1) dX8_couldHave_0 rfl ?_
  refine g_istore_n (pc' := 2) dX8_couldHave_1 rfl (by decide) rfl ?_
  try simp only [List.set]
  exact lx_couldHave hok hc hw ht (Nat.le_refl _) ⟨rfl, rfl⟩ _ 0 (Nat.zero_le _) rfl (fun i q => absurd q (Nat.not_lt_zero i))
theorem wN_0s (h : Hp) (a : Ad) (f : Nat → Int32) (n : Nat) : wN h a 0 f (n + 1) = wI (wN h a 0 f n) a n (f n) := by
  show wI _ _ (0 + n) _ = _
  rw [Nat.zero_add]
theorem ftB {P : Prop} : fits .boolean (.int (bi P)) = true := by
  by_cases q : P
  · rw [bi_t q]; rfl
  · rw [bi_f q]; rfl
theorem bkW_mx (m : St) (t : Nat) : (if nI 1 < m 1 2 - m 121 t then m 1 2 - m 121 t else nI 1) = bkW m t := by
  unfold bkW
  by_cases q : nI 1 ≤ m 1 2 - m 121 t
  · rw [cif_t q]
    by_cases z : nI 1 < m 1 2 - m 121 t
    · rw [if_pos z]
    · rw [if_neg z]
      exact Int32.le_antisymm q (Int32.not_lt.mp z)
  · rw [cif_f q, if_neg (fun z => q (Int32.le_of_lt z))]
/-- the toy's cells as it came back -/
noncomputable def cbH (m : St) (h : Hp) (t : Nat) : Hp := wI (wI (wN h (26, t) 0 (fun s => m 100 s &&& nI 255) 6) (3, t) 12 (m 117 t + bkW m t)) (3, t) 11 (m 1 2)
set_option maxRecDepth 4000 in
theorem lx_comeBack {E : En} (hok : EOK E) {h h0 : Hp} {m : St} (hc : Cp m h) (hw : Wf m) {t : Nat} (ht : t < nT m) {d : Nat} (hd : 1 ≤ d) {Q : Option V → Hp → Prop} (hQ : Q (some (vI (bkM m t))) (cbH m h t)) : ∀ n s : Nat, s ≤ 6 → 6 - s = n → G E m_X8_comeBack d 0 0 Q h0 5 [some (vR (3, t)), some (vR (20, 0)), some (vI (m 1 2)), some (vI (sm (fun s => m 125 (6 * t + s) - (m 100 s &&& nI 255)) s)), some (vI (nI s))] [] (wN h (26, t) 0 (fun s => m 100 s &&& nI 255) s) 0 0 := by
  have hs := hc.s
  have hKb := hw.k.2
  have hTb := hw.t.2
  have hFb := hw.f.2
  have hRb := hw.r.2
  have hGb := hw.g.2
  have hAb := hw.a.2
  have hTlb := hw.tl.2
  have hNwb := hw.w.2
  intro n
  induction n with
  | zero =>
    intro s h1 h2
    refine g_iload (pc' := 7) dX8_comeBack_5 rfl rfl ?_
    refine g_bipushN (n := 6) (pc' := 9) dX8_comeBack_7 rfl (by decide) ?_
    refine g_icmp_geN (tgt := 51) (pc' := 12) dX8_comeBack_9 rfl (by decide) (by omega) (by omega) (fun c9 => ?_) (fun c9 => ?_)
    ·
      have e : s = 6 := by omega
      subst e
      have hs : Shp (wN h (26, t) 0 (fun s => m 100 s &&& nI 255) 6).2 := by rw [wN_2]; exact hc.s
      refine g_aload_n (pc' := 52) dX8_comeBack_51 rfl rfl ?_
      refine g_dup (pc' := 53) dX8_comeBack_52 rfl rfl ?_
      refine g_getIv (v := m 117 t) (pc' := 56) (k := 12) dX8_comeBack_53 rfl rfl ck_9 (by decide) fl_X8_76 rfl ((congrFun (wN_off _ _ _ _ (ad_ne (show (3 : Nat) ≠ 26 by decide)) 6) 12).trans (hc.t12 (t := t) ht)) ?_
      refine g_iconstN (n := 1) (pc' := 57) dX8_comeBack_56 rfl ?_
      refine g_iload_n (pc' := 58) dX8_comeBack_57 rfl rfl ?_
      refine g_aload_n (pc' := 59) dX8_comeBack_58 rfl rfl ?_
      refine g_getIv (v := m 121 t) (pc' := 62) (k := 10) dX8_comeBack_59 rfl rfl ck_9 (by decide) fl_X8_70 rfl ((congrFun (wN_off _ _ _ _ (ad_ne (show (3 : Nat) ≠ 26 by decide)) 6) 10).trans (hc.t10 (t := t) ht)) ?_
      refine g_isub (pc' := 63) dX8_comeBack_62 rfl ?_
      refine g_max (pc' := 66) dX8_comeBack_63 rfl ml_X8_79 mx_s in_J9 mx_c (by omega) (by decide) (by decide) (Nat.le_of_ble_eq_true rfl) ?_
      rw [bkW_mx]
      refine g_iadd (pc' := 67) dX8_comeBack_66 rfl ?_
      refine g_putI (pc' := 70) (k := 12) dX8_comeBack_67 rfl rfl ck_9 (by decide) fl_X8_76 rfl rfl rfl rfl ?_
      refine g_aload_n (pc' := 71) dX8_comeBack_70 rfl rfl ?_
      refine g_iload_n (pc' := 72) dX8_comeBack_71 rfl rfl ?_
      refine g_putI (pc' := 75) (k := 11) dX8_comeBack_72 rfl rfl ck_9 (by decide) fl_X8_51 rfl rfl rfl rfl ?_
      refine g_iload_n (pc' := 76) dX8_comeBack_75 rfl rfl ?_
      refine g_iret dX8_comeBack_76 rfl (by decide) (by decide) ?_
      exact hQ
    · exact absurd c9 (by omega)
  | succ n ih =>
    intro s h1 h2
    refine g_iload (pc' := 7) dX8_comeBack_5 rfl rfl ?_
    refine g_bipushN (n := 6) (pc' := 9) dX8_comeBack_7 rfl (by decide) ?_
    refine g_icmp_geN (tgt := 51) (pc' := 12) dX8_comeBack_9 rfl (by decide) (by omega) (by omega) (fun c9 => ?_) (fun c9 => ?_)
    · exact absurd c9 (by omega)
    ·
      refine g_iload (pc' := 14) dX8_comeBack_12 rfl rfl ?_
      refine g_aload_n (pc' := 15) dX8_comeBack_14 rfl rfl ?_
      refine g_alen (pc' := 16) (v := nI 220) dX8_comeBack_15 rfl rfl (by decide) rfl ?_
      refine g_icmp_geN (tgt := 51) (pc' := 19) dX8_comeBack_16 rfl (by decide) (by omega) (by omega) (fun c16 => ?_) (fun c16 => ?_)
      · exact absurd c16 (by omega)
      ·
        have hs : Shp (wN h (26, t) 0 (fun s => m 100 s &&& nI 255) s).2 := by rw [wN_2]; exact hc.s
        refine g_iload_n (pc' := 20) dX8_comeBack_19 rfl rfl ?_
        refine g_aload_n (pc' := 21) dX8_comeBack_20 rfl rfl ?_
        refine g_getS (pc' := 24) (k := 3) (b := (26, t)) dX8_comeBack_21 rfl rfl ck_9 (by decide) fl_X8_33 rfl hs rfl ?_
        refine g_iload (pc' := 26) dX8_comeBack_24 rfl rfl ?_
        refine g_ialdN (pc' := 27) (v := m 125 (6 * t + s)) dX8_comeBack_26 rfl rfl (by decide) (by omega) ((wN_ge _ _ _ _ s (by omega)).trans ((hc.c6.2.1 t ht).2.2 s (by omega))) ?_
        refine g_aload_n (pc' := 28) dX8_comeBack_27 rfl rfl ?_
        refine g_iload (pc' := 30) dX8_comeBack_28 rfl rfl ?_
        refine g_ialdN (pc' := 31) (v := m 100 s &&& nI 255) dX8_comeBack_30 rfl rfl (by decide) (by omega) ((congrFun (wN_off _ _ _ _ (ad_ne (show (20 : Nat) ≠ 26 by decide)) s) s).trans (hc.c2 s (by omega))) ?_
        refine g_isub (pc' := 32) dX8_comeBack_31 rfl ?_
        refine g_iadd (pc' := 33) dX8_comeBack_32 rfl ?_
        refine g_istore_n (pc' := 34) dX8_comeBack_33 rfl (by decide) rfl ?_
        try simp only [List.set]
        refine g_aload_n (pc' := 35) dX8_comeBack_34 rfl rfl ?_
        refine g_getS (pc' := 38) (k := 3) (b := (26, t)) dX8_comeBack_35 rfl rfl ck_9 (by decide) fl_X8_33 rfl hs rfl ?_
        refine g_iload (pc' := 40) dX8_comeBack_38 rfl rfl ?_
        refine g_aload_n (pc' := 41) dX8_comeBack_40 rfl rfl ?_
        refine g_iload (pc' := 43) dX8_comeBack_41 rfl rfl ?_
        refine g_ialdN (pc' := 44) (v := m 100 s &&& nI 255) dX8_comeBack_43 rfl rfl (by decide) (by omega) ((congrFun (wN_off _ _ _ _ (ad_ne (show (20 : Nat) ≠ 26 by decide)) s) s).trans (hc.c2 s (by omega))) ?_
        refine g_iastN (pc' := 45) dX8_comeBack_44 rfl rfl (by decide) (by omega) ?_
        refine g_iincN (k := 1) (pc' := 48) dX8_comeBack_45 rfl rfl (by decide) rfl ?_
        try simp only [List.set]
        refine g_goto (tgt := 5) dX8_comeBack_48 (by decide) ?_
        have q := ih (s + 1) (by omega) (by omega)
        rw [wN_0s] at q
        exact q
set_option maxRecDepth 4000 in
theorem cx_comeBack {E : En} (hok : EOK E) {h : Hp} {m : St} (hc : Cp m h) (hw : Wf m) {t : Nat} (ht : t < nT m) : Call E m_X8_comeBack 1 0 0 [vR (3, t), vR (20, 0), vI (m 1 2)] h (fun r h' => r = some (vI (bkM m t)) ∧ cbH m h t = h') := by
  have hs := hc.s
  have hKb := hw.k.2
  have hTb := hw.t.2
  have hFb := hw.f.2
  have hRb := hw.r.2
  have hGb := hw.g.2
  have hAb := hw.a.2
  have hTlb := hw.tl.2
  have hNwb := hw.w.2
  refine Call.enter hok (by decide) (Nat.le_of_ble_eq_true rfl) ?_
  show G E m_X8_comeBack 1 0 0 _ h 0 [some (vR (3, t)), some (vR (20, 0)), some (vI (m 1 2)), none, none] [] h 0 0
  refine g_iconst (v := 0) (pc' := 1) dX8_comeBack_0 rfl (by decide) ?_
  refine g_istore_n (pc' := 2) dX8_comeBack_1 rfl (by decide) rfl ?_
  try simp only [List.set]
  refine g_iconstN (n := 0) (pc' := 3) dX8_comeBack_2 rfl ?_
  refine g_istore (pc' := 5) dX8_comeBack_3 rfl (by decide) rfl ?_
  try simp only [List.set]
  exact lx_comeBack hok hc hw ht (Nat.le_refl _) ⟨rfl, rfl⟩ _ 0 (Nat.zero_le _) rfl
noncomputable def ntB (lf l : Int32) (w : Nat) : Nat := cif (lf = nI (1 + w / 2) ∧ (w % 2 = 0 ∨ 0 < l)) 1 0
def NB (lf l : Int32) (h h' : Hp) : Prop := h'.2 = h.2 ∧ (∀ b, b ≠ (23, 0) → h'.1 b = h.1 b) ∧ ∀ w, w < 4 → h'.1 (23, 0) w = h.1 (23, 0) w + nI (ntB lf l w)
set_option maxRecDepth 4000 in
theorem cx_noteBehindFine {E : En} (hok : EOK E) {h : Hp} (hs : Shp h.2) {lf l : Int32} (h012 : lf = 0 ∨ lf = 1 ∨ lf = 2) : Call E m_X11_noteBehindFine 0 0 0 [vR TH, vI lf, vI l] h (fun r h' => r = none ∧ NB lf l h h') := by
  refine Call.enter hok (by decide) (Nat.le_of_ble_eq_true rfl) ?_
  show G E m_X11_noteBehindFine 0 0 0 _ h 0 [some (vR TH), some (vI lf), some (vI l), none] [] h 0 0
  refine g_iload_n (pc' := 1) dX11_noteBehindFine_0 rfl rfl ?_
  refine g_if_ne (tgt := 5) (pc' := 4) dX11_noteBehindFine_1 rfl (by decide) (fun c1 => ?_) (fun c1 => ?_)
  ·
    refine g_iload_n (pc' := 6) dX11_noteBehindFine_5 rfl rfl ?_
    refine g_iconstN (n := 1) (pc' := 7) dX11_noteBehindFine_6 rfl ?_
    refine g_icmp_ne (tgt := 14) (pc' := 10) dX11_noteBehindFine_7 rfl (by decide) (fun c7 => ?_) (fun c7 => ?_)
    ·
      refine g_iconstN (n := 2) (pc' := 15) dX11_noteBehindFine_14 rfl ?_
      refine g_istore_n (pc' := 16) dX11_noteBehindFine_15 rfl (by decide) rfl ?_
      try simp only [List.set]
      refine g_aload_n (pc' := 17) dX11_noteBehindFine_16 rfl rfl ?_
      refine g_getS (pc' := 20) (k := 9) (b := (23, 0)) dX11_noteBehindFine_17 rfl rfl ck_12 (by decide) fl_X11_25 rfl hs rfl ?_
      refine g_iload_n (pc' := 21) dX11_noteBehindFine_20 rfl rfl ?_
      refine g_dup2 (pc' := 22) dX11_noteBehindFine_21 rfl rfl rfl ?_
      refine g_ialdN (pc' := 23) (v := _) dX11_noteBehindFine_22 rfl rfl (by decide) (by omega) (rfl) ?_
      refine g_iconstN (n := 1) (pc' := 24) dX11_noteBehindFine_23 rfl ?_
      refine g_iadd (pc' := 25) dX11_noteBehindFine_24 rfl ?_
      refine g_iastN (pc' := 26) dX11_noteBehindFine_25 rfl rfl (by decide) (by omega) ?_
      refine g_iload_n (pc' := 27) dX11_noteBehindFine_26 rfl rfl ?_
      refine g_if_le (tgt := 42) (pc' := 30) dX11_noteBehindFine_27 rfl (by decide) (fun c27 => ?_) (fun c27 => ?_)
      ·
        refine g_vret dX11_noteBehindFine_42 rfl (by decide) (by decide) ?_
        have hl2 : lf = nI 2 := by rcases h012 with z | z | z; exact absurd z c1; exact absurd z c7; exact z
        refine ⟨rfl, rfl, fun b q => wI_off _ _ _ _ b q, ?_⟩
        intro w hw4
        rcases (show w = 0 ∨ w = 1 ∨ w = 2 ∨ w = 3 by omega) with rfl | rfl | rfl | rfl
        · rw [show ntB lf l 0 = 0 from cif_f (fun z => c7 z.1)]; simp [wI_at, nI_0]
        · rw [show ntB lf l 1 = 0 from cif_f (fun z => c7 z.1)]; simp [wI_at, nI_0]
        · rw [show ntB lf l 2 = 1 from cif_t ⟨hl2, Or.inl rfl⟩]; simp [wI_at]
        · rw [show ntB lf l 3 = 0 from cif_f (fun z => by rcases z.2 with y | y; exact absurd y (by decide); exact absurd y (Int32.not_lt.mpr c27))]; simp [wI_at, nI_0]
      ·
        refine g_aload_n (pc' := 31) dX11_noteBehindFine_30 rfl rfl ?_
        refine g_getS (pc' := 34) (k := 9) (b := (23, 0)) dX11_noteBehindFine_31 rfl rfl ck_12 (by decide) fl_X11_25 rfl hs rfl ?_
        refine g_iload_n (pc' := 35) dX11_noteBehindFine_34 rfl rfl ?_
        refine g_iconstN (n := 1) (pc' := 36) dX11_noteBehindFine_35 rfl ?_
        refine g_iaddN (pc' := 37) dX11_noteBehindFine_36 rfl ?_
        refine g_dup2 (pc' := 38) dX11_noteBehindFine_37 rfl rfl rfl ?_
        refine g_ialdN (pc' := 39) (v := _) dX11_noteBehindFine_38 rfl rfl (by decide) (by omega) (rfl) ?_
        refine g_iconstN (n := 1) (pc' := 40) dX11_noteBehindFine_39 rfl ?_
        refine g_iadd (pc' := 41) dX11_noteBehindFine_40 rfl ?_
        refine g_iastN (pc' := 42) dX11_noteBehindFine_41 rfl rfl (by decide) (by omega) ?_
        refine g_vret dX11_noteBehindFine_42 rfl (by decide) (by decide) ?_
        have hl2 : lf = nI 2 := by rcases h012 with z | z | z; exact absurd z c1; exact absurd z c7; exact z
        refine ⟨rfl, rfl, fun b q => (wI_off _ _ _ _ b q).trans (wI_off _ _ _ _ b q), ?_⟩
        intro w hw4
        rcases (show w = 0 ∨ w = 1 ∨ w = 2 ∨ w = 3 by omega) with rfl | rfl | rfl | rfl
        · rw [show ntB lf l 0 = 0 from cif_f (fun z => c7 z.1)]; simp [wI_at, nI_0]
        · rw [show ntB lf l 1 = 0 from cif_f (fun z => c7 z.1)]; simp [wI_at, nI_0]
        · rw [show ntB lf l 2 = 1 from cif_t ⟨hl2, Or.inl rfl⟩]; simp [wI_at]
        · rw [show ntB lf l 3 = 1 from cif_t ⟨hl2, Or.inr (Int32.not_le.mp c27)⟩]; simp [wI_at]
    ·
      refine g_iconstN (n := 0) (pc' := 11) dX11_noteBehindFine_10 rfl ?_
      refine g_goto (tgt := 15) dX11_noteBehindFine_11 (by decide) ?_
      refine g_istore_n (pc' := 16) dX11_noteBehindFine_15 rfl (by decide) rfl ?_
      try simp only [List.set]
      refine g_aload_n (pc' := 17) dX11_noteBehindFine_16 rfl rfl ?_
      refine g_getS (pc' := 20) (k := 9) (b := (23, 0)) dX11_noteBehindFine_17 rfl rfl ck_12 (by decide) fl_X11_25 rfl hs rfl ?_
      refine g_iload_n (pc' := 21) dX11_noteBehindFine_20 rfl rfl ?_
      refine g_dup2 (pc' := 22) dX11_noteBehindFine_21 rfl rfl rfl ?_
      refine g_ialdN (pc' := 23) (v := _) dX11_noteBehindFine_22 rfl rfl (by decide) (by omega) (rfl) ?_
      refine g_iconstN (n := 1) (pc' := 24) dX11_noteBehindFine_23 rfl ?_
      refine g_iadd (pc' := 25) dX11_noteBehindFine_24 rfl ?_
      refine g_iastN (pc' := 26) dX11_noteBehindFine_25 rfl rfl (by decide) (by omega) ?_
      refine g_iload_n (pc' := 27) dX11_noteBehindFine_26 rfl rfl ?_
      refine g_if_le (tgt := 42) (pc' := 30) dX11_noteBehindFine_27 rfl (by decide) (fun c27 => ?_) (fun c27 => ?_)
      ·
        refine g_vret dX11_noteBehindFine_42 rfl (by decide) (by decide) ?_
        refine ⟨rfl, rfl, fun b q => wI_off _ _ _ _ b q, ?_⟩
        intro w hw4
        rcases (show w = 0 ∨ w = 1 ∨ w = 2 ∨ w = 3 by omega) with rfl | rfl | rfl | rfl
        · rw [show ntB lf l 0 = 1 from cif_t ⟨c7, Or.inl rfl⟩]; simp [wI_at]
        · rw [show ntB lf l 1 = 0 from cif_f (fun z => by rcases z.2 with y | y; exact absurd y (by decide); exact absurd y (Int32.not_lt.mpr c27))]; simp [wI_at, nI_0]
        · rw [show ntB lf l 2 = 0 from cif_f (fun z => by rw [c7] at z; exact absurd z.1 (by decide))]; simp [wI_at, nI_0]
        · rw [show ntB lf l 3 = 0 from cif_f (fun z => by rw [c7] at z; exact absurd z.1 (by decide))]; simp [wI_at, nI_0]
      ·
        refine g_aload_n (pc' := 31) dX11_noteBehindFine_30 rfl rfl ?_
        refine g_getS (pc' := 34) (k := 9) (b := (23, 0)) dX11_noteBehindFine_31 rfl rfl ck_12 (by decide) fl_X11_25 rfl hs rfl ?_
        refine g_iload_n (pc' := 35) dX11_noteBehindFine_34 rfl rfl ?_
        refine g_iconstN (n := 1) (pc' := 36) dX11_noteBehindFine_35 rfl ?_
        refine g_iaddN (pc' := 37) dX11_noteBehindFine_36 rfl ?_
        refine g_dup2 (pc' := 38) dX11_noteBehindFine_37 rfl rfl rfl ?_
        refine g_ialdN (pc' := 39) (v := _) dX11_noteBehindFine_38 rfl rfl (by decide) (by omega) (rfl) ?_
        refine g_iconstN (n := 1) (pc' := 40) dX11_noteBehindFine_39 rfl ?_
        refine g_iadd (pc' := 41) dX11_noteBehindFine_40 rfl ?_
        refine g_iastN (pc' := 42) dX11_noteBehindFine_41 rfl rfl (by decide) (by omega) ?_
        refine g_vret dX11_noteBehindFine_42 rfl (by decide) (by decide) ?_
        refine ⟨rfl, rfl, fun b q => (wI_off _ _ _ _ b q).trans (wI_off _ _ _ _ b q), ?_⟩
        intro w hw4
        rcases (show w = 0 ∨ w = 1 ∨ w = 2 ∨ w = 3 by omega) with rfl | rfl | rfl | rfl
        · rw [show ntB lf l 0 = 1 from cif_t ⟨c7, Or.inl rfl⟩]; simp [wI_at]
        · rw [show ntB lf l 1 = 1 from cif_t ⟨c7, Or.inr (Int32.not_le.mp c27)⟩]; simp [wI_at]
        · rw [show ntB lf l 2 = 0 from cif_f (fun z => by rw [c7] at z; exact absurd z.1 (by decide))]; simp [wI_at, nI_0]
        · rw [show ntB lf l 3 = 0 from cif_f (fun z => by rw [c7] at z; exact absurd z.1 (by decide))]; simp [wI_at, nI_0]
  ·
    refine g_vret dX11_noteBehindFine_4 rfl (by decide) (by decide) ?_
    refine ⟨rfl, rfl, fun _ _ => rfl, ?_⟩
    intro w hw4
    rcases (show w = 0 ∨ w = 1 ∨ w = 2 ∨ w = 3 by omega) with rfl | rfl | rfl | rfl
    · rw [show ntB lf l 0 = 0 from cif_f (fun z => by rw [c1] at z; exact absurd z.1 (by decide))]; exact (Int32.add_zero _).symm
    · rw [show ntB lf l 1 = 0 from cif_f (fun z => by rw [c1] at z; exact absurd z.1 (by decide))]; exact (Int32.add_zero _).symm
    · rw [show ntB lf l 2 = 0 from cif_f (fun z => by rw [c1] at z; exact absurd z.1 (by decide))]; exact (Int32.add_zero _).symm
    · rw [show ntB lf l 3 = 0 from cif_f (fun z => by rw [c1] at z; exact absurd z.1 (by decide))]; exact (Int32.add_zero _).symm
theorem lastF_012 {m : St} (hx : Wx m) (f : Nat) : ∀ n, n ≤ nA m → lastF m f n = 0 ∨ lastF m f n = 1 ∨ lastF m f n = 2
  | 0, _ => Or.inl rfl
  | n + 1, q => by
    by_cases z : ¬ m 178 n = 0 ∧ m 176 n = nI f
    · rw [show lastF m f (n + 1) = m 177 n from cif_t z]
      exact hx.fi n (by omega) z.1
    · rw [show lastF m f (n + 1) = lastF m f n from cif_f z]
      exact lastF_012 hx f n (by omega)
/-- what settling changes -/
def Stl (t f : Nat) (d u c lf l : Int32) (h h' : Hp) : Prop := h'.2 = h.2 ∧ (∀ b : Ad, b.1 ≠ 3 → b.1 ≠ 4 → b.1 ≠ 7 → b.1 ≠ 23 → b.1 ≠ 42 → b.1 ≠ 43 → h'.1 b = h.1 b) ∧ (∀ i j, h'.1 (3, i) j = if i = t ∧ j = 14 then d else h.1 (3, i) j) ∧ (∀ i j, h'.1 (4, i) j = if i = f ∧ j = 6 then c else if i = f ∧ j = 5 then u else h.1 (4, i) j) ∧ ∀ w, w < 4 → h'.1 (23, 0) w = h.1 (23, 0) w + nI (ntB lf l w)
theorem Stl_mk {t f : Nat} {d u c lf l : Int32} {h h1 h2 : Hp} (s : Sx h h1) (q : NB lf l (wI (wI h1 (3, t) 14 d) (4, f) 5 u) h2) : Stl t f d u c lf l h (wI h2 (4, f) 6 c) := by
  refine ⟨(q.1.trans rfl).trans s.1, fun b b3 b4 b7 b23 b42 b43 => ?_, fun i j => ?_, fun i j => ?_, fun w hw => ?_⟩
  · rw [wI_off _ _ _ _ b (ad_ne b4), q.2.1 b (ad_ne b23), wI_off _ _ _ _ b (ad_ne b4), wI_off _ _ _ _ b (ad_ne b3), s.2 b b7 b42 b43]
  · rw [wI_off _ _ _ _ (3, i) (ad_ne (show (3 : Nat) ≠ 4 by decide)), q.2.1 (3, i) (ad_ne (show (3 : Nat) ≠ 23 by decide)), wI_off _ _ _ _ (3, i) (ad_ne (show (3 : Nat) ≠ 4 by decide)), wI_at, s.2 (3, i) (show (3 : Nat) ≠ 7 by decide) (show (3 : Nat) ≠ 42 by decide) (show (3 : Nat) ≠ 43 by decide)]
    simp
  · rw [wI_at, q.2.1 (4, i) (ad_ne (show (4 : Nat) ≠ 23 by decide)), wI_at, wI_off _ _ _ _ (4, i) (ad_ne (show (4 : Nat) ≠ 3 by decide)), s.2 (4, i) (show (4 : Nat) ≠ 7 by decide) (show (4 : Nat) ≠ 42 by decide) (show (4 : Nat) ≠ 43 by decide)]
    simp
  · rw [wI_off _ _ _ _ (23, 0) (ad_ne (show (23 : Nat) ≠ 4 by decide)), q.2.2 w hw, wI_off _ _ _ _ (23, 0) (ad_ne (show (23 : Nat) ≠ 4 by decide)), wI_off _ _ _ _ (23, 0) (ad_ne (show (23 : Nat) ≠ 3 by decide)), s.2 (23, 0) (show (23 : Nat) ≠ 7 by decide) (show (23 : Nat) ≠ 42 by decide) (show (23 : Nat) ≠ 43 by decide)]
set_option maxRecDepth 4000 in
theorem cx_settle {E : En} (hok : EOK E) {h : Hp} {m : St} (hc : Cp m h) (hw : Wf m) (hx : Wx m) {R : Rm} (hCR : CR m h R) {t f : Nat} (ht : t < nT m) (hf : f < nF m) (l la : Int32) : Call E m_X11_settle 6 0 0 [vR TH, vR (3, t), vR (4, f), vI l, vI la] h (fun r h' => r = some (vI (bkA m R t f l la)) ∧ Stl t f (bi (smP m R (envT m t f l) (nI 119))) (m 129 f + bkA m R t f l la) (bkC m R t f l) (lastF m f (nA m)) l h h') := by
  have hs := hc.s
  have hKb := hw.k.2
  have hTb := hw.t.2
  have hFb := hw.f.2
  have hRb := hw.r.2
  have hGb := hw.g.2
  have hAb := hw.a.2
  have hTlb := hw.tl.2
  have hNwb := hw.w.2
  have hkd := (hw.kd ht).2
  refine Call.enter hok (by decide) (Nat.le_of_ble_eq_true rfl) ?_
  show G E m_X11_settle 6 0 0 _ h 0 [some (vR TH), some (vR (3, t)), some (vR (4, f)), some (vI l), some (vI la), none, none, none] [] h 0 0
  refine g_aload_n (pc' := 1) dX11_settle_0 rfl rfl ?_
  refine g_aload_n (pc' := 2) dX11_settle_1 rfl rfl ?_
  refine g_getR (pc' := 5) (k := 1) (r := some (2, kd m t)) dX11_settle_2 rfl rfl ck_9 (by decide) fl_X11_203 rfl ((hc.c6.2.1 _ (by omega)).1) ?_
  refine g_aload_n (pc' := 6) dX11_settle_5 rfl rfl ?_
  refine g_aload_n (pc' := 7) dX11_settle_6 rfl rfl ?_
  refine g_iload_n (pc' := 8) dX11_settle_7 rfl rfl ?_
  refine g_invV (pc' := 11) (cx_writeLettersT hok hc hw hx (k := kd m t) (f := f) (by omega) (by omega) (t := t) (by omega) _) dX11_settle_8 rfl rfl ck_12 rfl ml_X11_207 im_X11_writeLetters sl_X11_writeLetters in_X11 co_X11_writeLetters pd_X11_writeLetters rfl (by omega) (by decide) ⟨by decide, by decide⟩ (Nat.le_of_ble_eq_true rfl) ?_
  rintro _ h1 ⟨rfl, w1, l1⟩ -
  obtain ⟨ti, hq1⟩ := Tq_of hs hCR w1 l1
  have hc := hc.lw w1
  have hs := hq1.1
  refine g_aload_n (pc' := 12) dX11_settle_11 rfl rfl ?_
  refine g_getS (pc' := 15) (k := 14) (b := (7, 0)) dX11_settle_12 rfl rfl ck_12 (by decide) fl_X11_56 rfl hs rfl ?_
  refine g_bipushN (n := 102) (pc' := 17) dX11_settle_15 rfl (by decide) ?_
  refine g_iconstN (n := 0) (pc' := 18) dX11_settle_17 rfl ?_
  refine g_iconstN (n := 0) (pc' := 19) dX11_settle_18 rfl ?_
  refine g_ldcw (pc' := 22) dX11_settle_19 rfl kc_X11_256 ?_
  refine g_invV (pc' := 25) (cx_firstValue hok hw hq1 _ _ _ _ (by decide) (Or.inr (Or.inl rfl))) dX11_settle_22 rfl rfl ck_6 rfl ml_X11_211 im_X5_firstValue sl_X5_firstValue in_X5 co_X5_firstValue pd_X5_firstValue rfl (by omega) (by decide) ⟨by decide, by decide⟩ (Nat.le_of_ble_eq_true rfl) ?_
  rintro _ h2 ⟨rfl, w2⟩ -
  have hq2 := hq1.rk w2
  have hc := hc.rk w2
  have hs := hc.s
  refine g_istore (pc' := 27) dX11_settle_25 rfl (by decide) rfl ?_
  try simp only [List.set]
  refine g_aload_n (pc' := 28) dX11_settle_27 rfl rfl ?_
  refine g_getS (pc' := 31) (k := 14) (b := (7, 0)) dX11_settle_28 rfl rfl ck_12 (by decide) fl_X11_56 rfl hs rfl ?_
  refine g_bipushN (n := 111) (pc' := 33) dX11_settle_31 rfl (by decide) ?_
  refine g_invV (pc' := 36) (cx_someHolds hok hw hq2 _) dX11_settle_33 rfl rfl ck_6 rfl ml_X11_495 im_X5_someHolds sl_X5_someHolds in_X5 co_X5_someHolds pd_X5_someHolds rfl (by omega) (by decide) ⟨by decide, by decide⟩ (Nat.le_of_ble_eq_true rfl) ?_
  rintro _ h3 ⟨rfl, w3⟩ -
  have hq3 := hq2.rk w3
  have hc := hc.rk w3
  have hs := hc.s
  refine g_istore (pc' := 38) dX11_settle_36 rfl (by decide) rfl ?_
  try simp only [List.set]
  refine g_iload (pc' := 40) dX11_settle_38 rfl rfl ?_
  refine g_aload_n (pc' := 41) dX11_settle_40 rfl rfl ?_
  refine g_getS (pc' := 44) (k := 14) (b := (7, 0)) dX11_settle_41 rfl rfl ck_12 (by decide) fl_X11_56 rfl hs rfl ?_
  refine g_bipushN (n := 112) (pc' := 46) dX11_settle_44 rfl (by decide) ?_
  refine g_iconstN (n := 0) (pc' := 47) dX11_settle_46 rfl ?_
  refine g_iconstN (n := 0) (pc' := 48) dX11_settle_47 rfl ?_
  refine g_ldcw (pc' := 51) dX11_settle_48 rfl kc_X11_256 ?_
  refine g_invV (pc' := 54) (cx_firstValue hok hw hq3 _ _ _ _ (by decide) (Or.inr (Or.inr (Or.inl rfl)))) dX11_settle_51 rfl rfl ck_6 rfl ml_X11_211 im_X5_firstValue sl_X5_firstValue in_X5 co_X5_firstValue pd_X5_firstValue rfl (by omega) (by decide) ⟨by decide, by decide⟩ (Nat.le_of_ble_eq_true rfl) ?_
  rintro _ h4 ⟨rfl, w4⟩ -
  have hq4 := hq3.rk w4
  have hc := hc.rk w4
  have hs := hc.s
  refine g_imul (pc' := 55) dX11_settle_54 rfl ?_
  refine g_iload (pc' := 57) dX11_settle_55 rfl rfl ?_
  refine g_ifB_eq (tgt := 64) (pc' := 60) dX11_settle_57 rfl (by decide) (fun c57 => ?_) (fun c57 => ?_)
  ·
    refine g_iload (pc' := 66) dX11_settle_64 rfl rfl ?_
    refine g_iadd (pc' := 67) dX11_settle_66 rfl ?_
    refine g_istore (pc' := 69) dX11_settle_67 rfl (by decide) rfl ?_
    try simp only [List.set]
    refine g_aload_n (pc' := 70) dX11_settle_69 rfl rfl ?_
    refine g_aload_n (pc' := 71) dX11_settle_70 rfl rfl ?_
    refine g_getS (pc' := 74) (k := 14) (b := (7, 0)) dX11_settle_71 rfl rfl ck_12 (by decide) fl_X11_56 rfl hs rfl ?_
    refine g_bipushN (n := 119) (pc' := 76) dX11_settle_74 rfl (by decide) ?_
    refine g_invV (pc' := 79) (cx_someHolds hok hw hq4 _) dX11_settle_76 rfl rfl ck_6 rfl ml_X11_495 im_X5_someHolds sl_X5_someHolds in_X5 co_X5_someHolds pd_X5_someHolds rfl (by omega) (by decide) ⟨by decide, by decide⟩ (Nat.le_of_ble_eq_true rfl) ?_
    rintro _ h5 ⟨rfl, w5⟩ -
    have hq5 := hq4.rk w5
    have hc := hc.rk w5
    have hs := hc.s
    refine g_putI (pc' := 82) (k := 14) dX11_settle_79 rfl rfl ck_9 (by decide) fl_X11_260 rfl rfl (by first | exact nbB | exact ftB) (by first | exact nbB | exact ftB) ?_
    refine g_aload_n (pc' := 83) dX11_settle_82 rfl rfl ?_
    refine g_dup (pc' := 84) dX11_settle_83 rfl rfl ?_
    refine g_getIv (v := m 129 (f)) (pc' := 87) (k := 5) dX11_settle_84 rfl rfl ck_2 (by decide) fl_X11_257 rfl (hc.f5 (f := f) (by omega)) ?_
    refine g_iload (pc' := 89) dX11_settle_87 rfl rfl ?_
    refine g_iadd (pc' := 90) dX11_settle_89 rfl ?_
    refine g_putI (pc' := 93) (k := 5) dX11_settle_90 rfl rfl ck_2 (by decide) fl_X11_257 rfl rfl rfl rfl ?_
    refine g_aload_n (pc' := 94) dX11_settle_93 rfl rfl ?_
    refine g_aload_n (pc' := 95) dX11_settle_94 rfl rfl ?_
    refine g_getIv (v := lastF m f (nA m)) (pc' := 98) (k := 6) dX11_settle_95 rfl rfl ck_2 (by decide) fl_X11_498 rfl (by first | exact hc.c11.1 f hf | (simp [wI_at]; exact hc.c11.1 f hf)) ?_
    refine g_iload_n (pc' := 99) dX11_settle_98 rfl rfl ?_
    refine g_invV (pc' := 102) (cx_noteBehindFine hok (by exact hs) (lastF_012 hx f (nA m) (Nat.le_refl _))) dX11_settle_99 rfl rfl ck_12 rfl ml_X11_501 im_X11_noteBehindFine sl_X11_noteBehindFine in_X11 co_X11_noteBehindFine pd_X11_noteBehindFine rfl (by omega) (by decide) ⟨by decide, by decide⟩ (Nat.le_of_ble_eq_true rfl) ?_
    rintro _ h6 ⟨rfl, n6⟩ -
    refine g_aload_n (pc' := 103) dX11_settle_102 rfl rfl ?_
    refine g_iload (pc' := 105) dX11_settle_103 rfl rfl ?_
    refine g_if_ne (tgt := 112) (pc' := 108) dX11_settle_105 rfl (by decide) (fun c105 => ?_) (fun c105 => ?_)
    ·
      refine g_iload (pc' := 114) dX11_settle_112 rfl rfl ?_
      refine g_ifB_eq (tgt := 121) (pc' := 117) dX11_settle_114 rfl (by decide) (fun c114 => ?_) (fun c114 => ?_)
      ·
        refine g_iconstN (n := 2) (pc' := 122) dX11_settle_121 rfl ?_
        refine g_putI (pc' := 125) (k := 6) dX11_settle_122 rfl rfl ck_2 (by decide) fl_X11_498 rfl rfl rfl rfl ?_
        refine g_iload (pc' := 127) dX11_settle_125 rfl rfl ?_
        refine g_iret dX11_settle_127 rfl (by decide) (by decide) ?_
        have ea : bkA m R t f l la = _ := congrArg (fun z => la * tlF m R (envT m t f l) (nI 112) (nI 0) 100000 (nI 0) (nC m) 0 + z) (cif_f c57)
        have ec : bkC m R t f l = _ := (cif_f c105).trans (cif_f c114)
        rw [ea, ec]
        exact ⟨rfl, Stl_mk ((((w1.sx.tr w2.sx).tr w3.sx).tr w4.sx).tr w5.sx) n6⟩
      ·
        refine g_iconstN (n := 1) (pc' := 118) dX11_settle_117 rfl ?_
        refine g_goto (tgt := 122) dX11_settle_118 (by decide) ?_
        refine g_putI (pc' := 125) (k := 6) dX11_settle_122 rfl rfl ck_2 (by decide) fl_X11_498 rfl rfl rfl rfl ?_
        refine g_iload (pc' := 127) dX11_settle_125 rfl rfl ?_
        refine g_iret dX11_settle_127 rfl (by decide) (by decide) ?_
        have ea : bkA m R t f l la = _ := congrArg (fun z => la * tlF m R (envT m t f l) (nI 112) (nI 0) 100000 (nI 0) (nC m) 0 + z) (cif_f c57)
        have ec : bkC m R t f l = _ := (cif_f c105).trans (cif_t c114)
        rw [ea, ec]
        exact ⟨rfl, Stl_mk ((((w1.sx.tr w2.sx).tr w3.sx).tr w4.sx).tr w5.sx) n6⟩
    ·
      refine g_iconstN (n := 0) (pc' := 109) dX11_settle_108 rfl ?_
      refine g_goto (tgt := 122) dX11_settle_109 (by decide) ?_
      refine g_putI (pc' := 125) (k := 6) dX11_settle_122 rfl rfl ck_2 (by decide) fl_X11_498 rfl rfl rfl rfl ?_
      refine g_iload (pc' := 127) dX11_settle_125 rfl rfl ?_
      refine g_iret dX11_settle_127 rfl (by decide) (by decide) ?_
      have ea : bkA m R t f l la = _ := congrArg (fun z => la * tlF m R (envT m t f l) (nI 112) (nI 0) 100000 (nI 0) (nC m) 0 + z) (cif_f c57)
      have ec : bkC m R t f l = _ := cif_t c105
      rw [ea, ec]
      exact ⟨rfl, Stl_mk ((((w1.sx.tr w2.sx).tr w3.sx).tr w4.sx).tr w5.sx) n6⟩
  ·
    refine g_iconstN (n := 0) (pc' := 61) dX11_settle_60 rfl ?_
    refine g_goto (tgt := 66) dX11_settle_61 (by decide) ?_
    refine g_iadd (pc' := 67) dX11_settle_66 rfl ?_
    refine g_istore (pc' := 69) dX11_settle_67 rfl (by decide) rfl ?_
    try simp only [List.set]
    refine g_aload_n (pc' := 70) dX11_settle_69 rfl rfl ?_
    refine g_aload_n (pc' := 71) dX11_settle_70 rfl rfl ?_
    refine g_getS (pc' := 74) (k := 14) (b := (7, 0)) dX11_settle_71 rfl rfl ck_12 (by decide) fl_X11_56 rfl hs rfl ?_
    refine g_bipushN (n := 119) (pc' := 76) dX11_settle_74 rfl (by decide) ?_
    refine g_invV (pc' := 79) (cx_someHolds hok hw hq4 _) dX11_settle_76 rfl rfl ck_6 rfl ml_X11_495 im_X5_someHolds sl_X5_someHolds in_X5 co_X5_someHolds pd_X5_someHolds rfl (by omega) (by decide) ⟨by decide, by decide⟩ (Nat.le_of_ble_eq_true rfl) ?_
    rintro _ h5 ⟨rfl, w5⟩ -
    have hq5 := hq4.rk w5
    have hc := hc.rk w5
    have hs := hc.s
    refine g_putI (pc' := 82) (k := 14) dX11_settle_79 rfl rfl ck_9 (by decide) fl_X11_260 rfl rfl (by first | exact nbB | exact ftB) (by first | exact nbB | exact ftB) ?_
    refine g_aload_n (pc' := 83) dX11_settle_82 rfl rfl ?_
    refine g_dup (pc' := 84) dX11_settle_83 rfl rfl ?_
    refine g_getIv (v := m 129 (f)) (pc' := 87) (k := 5) dX11_settle_84 rfl rfl ck_2 (by decide) fl_X11_257 rfl (hc.f5 (f := f) (by omega)) ?_
    refine g_iload (pc' := 89) dX11_settle_87 rfl rfl ?_
    refine g_iadd (pc' := 90) dX11_settle_89 rfl ?_
    refine g_putI (pc' := 93) (k := 5) dX11_settle_90 rfl rfl ck_2 (by decide) fl_X11_257 rfl rfl rfl rfl ?_
    refine g_aload_n (pc' := 94) dX11_settle_93 rfl rfl ?_
    refine g_aload_n (pc' := 95) dX11_settle_94 rfl rfl ?_
    refine g_getIv (v := lastF m f (nA m)) (pc' := 98) (k := 6) dX11_settle_95 rfl rfl ck_2 (by decide) fl_X11_498 rfl (by first | exact hc.c11.1 f hf | (simp [wI_at]; exact hc.c11.1 f hf)) ?_
    refine g_iload_n (pc' := 99) dX11_settle_98 rfl rfl ?_
    refine g_invV (pc' := 102) (cx_noteBehindFine hok (by exact hs) (lastF_012 hx f (nA m) (Nat.le_refl _))) dX11_settle_99 rfl rfl ck_12 rfl ml_X11_501 im_X11_noteBehindFine sl_X11_noteBehindFine in_X11 co_X11_noteBehindFine pd_X11_noteBehindFine rfl (by omega) (by decide) ⟨by decide, by decide⟩ (Nat.le_of_ble_eq_true rfl) ?_
    rintro _ h6 ⟨rfl, n6⟩ -
    refine g_aload_n (pc' := 103) dX11_settle_102 rfl rfl ?_
    refine g_iload (pc' := 105) dX11_settle_103 rfl rfl ?_
    refine g_if_ne (tgt := 112) (pc' := 108) dX11_settle_105 rfl (by decide) (fun c105 => ?_) (fun c105 => ?_)
    ·
      refine g_iload (pc' := 114) dX11_settle_112 rfl rfl ?_
      refine g_ifB_eq (tgt := 121) (pc' := 117) dX11_settle_114 rfl (by decide) (fun c114 => ?_) (fun c114 => ?_)
      ·
        refine g_iconstN (n := 2) (pc' := 122) dX11_settle_121 rfl ?_
        refine g_putI (pc' := 125) (k := 6) dX11_settle_122 rfl rfl ck_2 (by decide) fl_X11_498 rfl rfl rfl rfl ?_
        refine g_iload (pc' := 127) dX11_settle_125 rfl rfl ?_
        refine g_iret dX11_settle_127 rfl (by decide) (by decide) ?_
        have ea : bkA m R t f l la = _ := congrArg (fun z => la * tlF m R (envT m t f l) (nI 112) (nI 0) 100000 (nI 0) (nC m) 0 + z) (cif_t c57)
        have ec : bkC m R t f l = _ := (cif_f c105).trans (cif_f c114)
        rw [ea, ec]
        exact ⟨rfl, Stl_mk ((((w1.sx.tr w2.sx).tr w3.sx).tr w4.sx).tr w5.sx) n6⟩
      ·
        refine g_iconstN (n := 1) (pc' := 118) dX11_settle_117 rfl ?_
        refine g_goto (tgt := 122) dX11_settle_118 (by decide) ?_
        refine g_putI (pc' := 125) (k := 6) dX11_settle_122 rfl rfl ck_2 (by decide) fl_X11_498 rfl rfl rfl rfl ?_
        refine g_iload (pc' := 127) dX11_settle_125 rfl rfl ?_
        refine g_iret dX11_settle_127 rfl (by decide) (by decide) ?_
        have ea : bkA m R t f l la = _ := congrArg (fun z => la * tlF m R (envT m t f l) (nI 112) (nI 0) 100000 (nI 0) (nC m) 0 + z) (cif_t c57)
        have ec : bkC m R t f l = _ := (cif_f c105).trans (cif_t c114)
        rw [ea, ec]
        exact ⟨rfl, Stl_mk ((((w1.sx.tr w2.sx).tr w3.sx).tr w4.sx).tr w5.sx) n6⟩
    ·
      refine g_iconstN (n := 0) (pc' := 109) dX11_settle_108 rfl ?_
      refine g_goto (tgt := 122) dX11_settle_109 (by decide) ?_
      refine g_putI (pc' := 125) (k := 6) dX11_settle_122 rfl rfl ck_2 (by decide) fl_X11_498 rfl rfl rfl rfl ?_
      refine g_iload (pc' := 127) dX11_settle_125 rfl rfl ?_
      refine g_iret dX11_settle_127 rfl (by decide) (by decide) ?_
      have ea : bkA m R t f l la = _ := congrArg (fun z => la * tlF m R (envT m t f l) (nI 112) (nI 0) 100000 (nI 0) (nC m) 0 + z) (cif_t c57)
      have ec : bkC m R t f l = _ := cif_t c105
      rw [ea, ec]
      exact ⟨rfl, Stl_mk ((((w1.sx.tr w2.sx).tr w3.sx).tr w4.sx).tr w5.sx) n6⟩
