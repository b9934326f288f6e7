theorem C6_holder {m : St} {h : Hp} (c : C6 m h) (t : Nat) (x : Int32) : C6 (stU m 119 t x) (wI h (3, t) 8 x) := by
  refine ⟨c.1, fun u hu => ?_, c.2.2⟩
  have a := c.2.1 u hu
  refine ⟨a.1, ?_, a.2.2⟩
  have q := a.2.1
  by_cases e : u = t
  · subst e
    simp_all [wI_at, stU_at]
  · simp_all [wI_at, stU_at]
theorem C6_due {m : St} {h : Hp} (c : C6 m h) (t : Nat) (x : Int32) : C6 (stU m 120 t x) (wI h (3, t) 9 x) := by
  refine ⟨c.1, fun u hu => ?_, c.2.2⟩
  have a := c.2.1 u hu
  refine ⟨a.1, ?_, a.2.2⟩
  have q := a.2.1
  by_cases e : u = t
  · subst e
    simp_all [wI_at, stU_at]
  · simp_all [wI_at, stU_at]
theorem C6_lentOn {m : St} {h : Hp} (c : C6 m h) (t : Nat) (x : Int32) : C6 (stU m 121 t x) (wI h (3, t) 10 x) := by
  refine ⟨c.1, fun u hu => ?_, c.2.2⟩
  have a := c.2.1 u hu
  refine ⟨a.1, ?_, a.2.2⟩
  have q := a.2.1
  by_cases e : u = t
  · subst e
    simp_all [wI_at, stU_at]
  · simp_all [wI_at, stU_at]
theorem C6_wear {m : St} {h : Hp} (c : C6 m h) (t : Nat) (x : Int32) : C6 (stU m 117 t x) (wI h (3, t) 12 x) := by
  refine ⟨c.1, fun u hu => ?_, c.2.2⟩
  have a := c.2.1 u hu
  refine ⟨a.1, ?_, a.2.2⟩
  have q := a.2.1
  by_cases e : u = t
  · subst e
    simp_all [wI_at, stU_at]
  · simp_all [wI_at, stU_at]
theorem C6_times {m : St} {h : Hp} (c : C6 m h) (t : Nat) (x : Int32) : C6 (stU m 122 t x) (wI h (3, t) 13 x) := by
  refine ⟨c.1, fun u hu => ?_, c.2.2⟩
  have a := c.2.1 u hu
  refine ⟨a.1, ?_, a.2.2⟩
  have q := a.2.1
  by_cases e : u = t
  · subst e
    simp_all [wI_at, stU_at]
  · simp_all [wI_at, stU_at]
/-- acts written, those before stay -/
theorem lastF_ext {m m' : St} {f : Nat} : ∀ n, (∀ i, i < n → m' 176 i = m 176 i ∧ m' 177 i = m 177 i ∧ m' 178 i = m 178 i) → lastF m' f n = lastF m f n
  | 0, _ => rfl
  | n + 1, q => by
    unfold lastF
    obtain ⟨a, b, c⟩ := q n (Nat.lt_succ_self n)
    rw [lastF_ext n (fun i hi => q i (by omega)), a, b, c]
theorem fgP_ext {m m' : St} {w f n : Nat} (q : ∀ i, i < n → m' 176 i = m 176 i ∧ m' 177 i = m 177 i ∧ m' 178 i = m 178 i ∧ m' 179 i = m 179 i) {i : Nat} (hi : i < n) : fgP m' w f i ↔ fgP m w f i := by
  unfold fgP
  obtain ⟨a, b, c, d⟩ := q i hi
  rw [lastF_ext i (fun j hj => by obtain ⟨a, b, c, d⟩ := q j (by omega); exact ⟨a, b, c⟩), a, c, d]
theorem nA_wrt {m : St} {n : Nat} {t w : Int32} (hn : n + 1 < 2 ^ 31) : nA (wrtS m n t w) = n + 1 := nI_clamp hn
theorem C11_wrt {m : St} {h h' : Hp} {t w : Int32} (c : C11 m h) (hn : nA m ≤ 512) (e7 : ∀ f, h'.1 (4, f) 6 = h.1 (4, f) 6) (e8 : h'.1 (23, 0) = h.1 (23, 0)) : C11 (wrtS m (nA m) t w) h' := by
  have q : ∀ i, i < nA m → wrtS m (nA m) t w 176 i = m 176 i ∧ wrtS m (nA m) t w 177 i = m 177 i ∧ wrtS m (nA m) t w 178 i = m 178 i ∧ wrtS m (nA m) t w 179 i = m 179 i := fun i hi => by
    refine ⟨rfl, rfl, ?_, rfl⟩
    show stU _ 178 (nA m) 0 178 i = m 178 i
    rw [stU_at, if_neg (fun z => by omega)]
    rfl
  have z : wrtS m (nA m) t w 178 (nA m) = 0 := by
    show stU _ 178 (nA m) 0 178 (nA m) = 0
    rw [stU_at, if_pos ⟨rfl, rfl⟩]
  have eN : nA (wrtS m (nA m) t w) = nA m + 1 := nA_wrt (by omega)
  refine ⟨fun f hf => ?_, fun v hv => ?_⟩
  · rw [e7, eN, c.1 f hf]
    have es : lastF (wrtS m (nA m) t w) f (nA m + 1) = lastF (wrtS m (nA m) t w) f (nA m) := cif_f (fun y => y.1 z)
    rw [es]
    exact (lastF_ext _ (fun i hi => by obtain ⟨a, b, d, -⟩ := q i hi; exact ⟨a, b, d⟩)).symm
  · rw [e8, c.2 v hv]
    unfold fgv
    rw [eN]
    have en : nF (wrtS m (nA m) t w) = nF m := rfl
    rw [en]
    congr 2
    funext f
    rw [cnt_f (fun y => y.1.1 z), Nat.add_zero]
    exact (cnt_congr (fun i hi => fgP_ext q hi)).symm
/-- the diary's page -/
def dwH (h : Hp) (n : Nat) (t d k w : Int32) : Hp := wI (wI (wI (wI (wI h (31, 0) n t) (32, 0) n d) (33, 0) n k) (34, 0) n w) (8, 0) 4 (nI (n + 1))
theorem C10_wrt {m : St} {h : Hp} {t w : Int32} (c : C10 m h) (hn : nA m ≤ 512) : C10 (wrtS m (nA m) t w) (dwH h (nA m) t (m 1 2) (m 1 2 + m 1 7) w) := by
  have eN : nA (wrtS m (nA m) t w) = nA m + 1 := nA_wrt (by omega)
  refine ⟨rfl, c.2.1, fun i hi => ?_⟩
  rw [eN] at hi
  unfold wrtS dwH
  by_cases e : i = nA m
  · subst e
    simp [wI_at, stU_at]
  · have q := c.2.2 i (by omega)
    simp [wI_at, stU_at, e, q]
theorem C10_lends {m : St} {h : Hp} (c : C10 m h) (x : Int32) : C10 (stU m 1 71 x) (wI h (8, 0) 5 x) := ⟨c.1, rfl, c.2.2⟩
def goH (h : Hp) (t : Nat) (f d u : Int32) : Hp := wI (wI (wI (wI (wI h (3, t) 7 (nI 1)) (3, t) 8 f) (3, t) 10 d) (3, t) 9 u) (3, t) 13 (h.1 (3, t) 13 + nI 1)
set_option maxRecDepth 4000 in
theorem cx_goOut {E : En} (hok : EOK E) {h : Hp} {t : Nat} (f d u : Int32) : Call E m_X8_goOut 0 0 0 [vR (3, t), vI f, vI d, vI u] h (fun r h' => r = none ∧ goH h t f d u = h') := by
  refine Call.enter hok (by decide) (Nat.le_of_ble_eq_true rfl) ?_
  show G E m_X8_goOut 0 0 0 _ h 0 [some (vR (3, t)), some (vI f), some (vI d), some (vI u)] [] h 0 0
  refine g_aload_n (pc' := 1) dX8_goOut_0 rfl rfl ?_
  refine g_iconstN (n := 1) (pc' := 2) dX8_goOut_1 rfl ?_
  refine g_putI (pc' := 5) (k := 7) dX8_goOut_2 rfl rfl ck_9 (by decide) fl_X8_42 rfl rfl rfl rfl ?_
  refine g_aload_n (pc' := 6) dX8_goOut_5 rfl rfl ?_
  refine g_iload_n (pc' := 7) dX8_goOut_6 rfl rfl ?_
  refine g_putI (pc' := 10) (k := 8) dX8_goOut_7 rfl rfl ck_9 (by decide) fl_X8_45 rfl rfl rfl rfl ?_
  refine g_aload_n (pc' := 11) dX8_goOut_10 rfl rfl ?_
  refine g_iload_n (pc' := 12) dX8_goOut_11 rfl rfl ?_
  refine g_putI (pc' := 15) (k := 10) dX8_goOut_12 rfl rfl ck_9 (by decide) fl_X8_70 rfl rfl rfl rfl ?_
  refine g_aload_n (pc' := 16) dX8_goOut_15 rfl rfl ?_
  refine g_iload_n (pc' := 17) dX8_goOut_16 rfl rfl ?_
  refine g_putI (pc' := 20) (k := 9) dX8_goOut_17 rfl rfl ck_9 (by decide) fl_X8_48 rfl rfl rfl rfl ?_
  refine g_aload_n (pc' := 21) dX8_goOut_20 rfl rfl ?_
  refine g_dup (pc' := 22) dX8_goOut_21 rfl rfl ?_
  refine g_getIv (v := h.1 (3, t) 13) (pc' := 25) (k := 13) dX8_goOut_22 rfl rfl ck_9 (by decide) fl_X8_73 rfl (by simp [wI_at]) ?_
  refine g_iconstN (n := 1) (pc' := 26) dX8_goOut_25 rfl ?_
  refine g_iadd (pc' := 27) dX8_goOut_26 rfl ?_
  refine g_putI (pc' := 30) (k := 13) dX8_goOut_27 rfl rfl ck_9 (by decide) fl_X8_73 rfl rfl rfl rfl ?_
  refine g_vret dX8_goOut_30 rfl (by decide) (by decide) ?_
  exact ⟨rfl, rfl⟩
set_option maxRecDepth 4000 in
theorem cx_write {E : En} (hok : EOK E) {h : Hp} (hs : Shp h.2) {n : Nat} (hn : n < 600) (h4 : h.1 (8, 0) 4 = nI n) (t d k w : Int32) : Call E m_X0_write 0 0 0 [vR (8, 0), vI t, vI d, vI k, vI w] h (fun r h' => r = none ∧ dwH h n t d k w = h') := by
  refine Call.enter hok (by decide) (Nat.le_of_ble_eq_true rfl) ?_
  show G E m_X0_write 0 0 0 _ h 0 [some (vR (8, 0)), some (vI t), some (vI d), some (vI k), some (vI w)] [] h 0 0
  refine g_aload_n (pc' := 1) dX0_write_0 rfl rfl ?_
  refine g_getIv (v := nI (n)) (pc' := 4) (k := 4) dX0_write_1 rfl rfl ck_1 (by decide) fl_X0_24 rfl (h4) ?_
  refine g_sipushN (n := 600) (pc' := 7) dX0_write_4 rfl (by decide) ?_
  refine g_icmp_geN (tgt := 61) (pc' := 10) dX0_write_7 rfl (by decide) (by omega) (by omega) (fun c7 => ?_) (fun c7 => ?_)
  · exact absurd c7 (by omega)
  ·
    refine g_aload_n (pc' := 11) dX0_write_10 rfl rfl ?_
    refine g_getS (pc' := 14) (k := 0) (b := (31, 0)) dX0_write_11 rfl rfl ck_1 (by decide) fl_X0_9 rfl hs rfl ?_
    refine g_aload_n (pc' := 15) dX0_write_14 rfl rfl ?_
    refine g_getIv (v := nI (n)) (pc' := 18) (k := 4) dX0_write_15 rfl rfl ck_1 (by decide) fl_X0_24 rfl (h4) ?_
    refine g_iload_n (pc' := 19) dX0_write_18 rfl rfl ?_
    refine g_iastN (pc' := 20) dX0_write_19 rfl rfl (by decide) (by omega) ?_
    refine g_aload_n (pc' := 21) dX0_write_20 rfl rfl ?_
    refine g_getS (pc' := 24) (k := 1) (b := (32, 0)) dX0_write_21 rfl rfl ck_1 (by decide) fl_X0_15 rfl hs rfl ?_
    refine g_aload_n (pc' := 25) dX0_write_24 rfl rfl ?_
    refine g_getIv (v := nI (n)) (pc' := 28) (k := 4) dX0_write_25 rfl rfl ck_1 (by decide) fl_X0_24 rfl (h4) ?_
    refine g_iload_n (pc' := 29) dX0_write_28 rfl rfl ?_
    refine g_iastN (pc' := 30) dX0_write_29 rfl rfl (by decide) (by omega) ?_
    refine g_aload_n (pc' := 31) dX0_write_30 rfl rfl ?_
    refine g_getS (pc' := 34) (k := 2) (b := (33, 0)) dX0_write_31 rfl rfl ck_1 (by decide) fl_X0_18 rfl hs rfl ?_
    refine g_aload_n (pc' := 35) dX0_write_34 rfl rfl ?_
    refine g_getIv (v := nI (n)) (pc' := 38) (k := 4) dX0_write_35 rfl rfl ck_1 (by decide) fl_X0_24 rfl (h4) ?_
    refine g_iload_n (pc' := 39) dX0_write_38 rfl rfl ?_
    refine g_iastN (pc' := 40) dX0_write_39 rfl rfl (by decide) (by omega) ?_
    refine g_aload_n (pc' := 41) dX0_write_40 rfl rfl ?_
    refine g_getS (pc' := 44) (k := 3) (b := (34, 0)) dX0_write_41 rfl rfl ck_1 (by decide) fl_X0_21 rfl hs rfl ?_
    refine g_aload_n (pc' := 45) dX0_write_44 rfl rfl ?_
    refine g_getIv (v := nI (n)) (pc' := 48) (k := 4) dX0_write_45 rfl rfl ck_1 (by decide) fl_X0_24 rfl (h4) ?_
    refine g_iload (pc' := 50) dX0_write_48 rfl rfl ?_
    refine g_iastN (pc' := 51) dX0_write_50 rfl rfl (by decide) (by omega) ?_
    refine g_aload_n (pc' := 52) dX0_write_51 rfl rfl ?_
    refine g_dup (pc' := 53) dX0_write_52 rfl rfl ?_
    refine g_getIv (v := nI (n)) (pc' := 56) (k := 4) dX0_write_53 rfl rfl ck_1 (by decide) fl_X0_24 rfl (h4) ?_
    refine g_iconstN (n := 1) (pc' := 57) dX0_write_56 rfl ?_
    refine g_iaddN (pc' := 58) dX0_write_57 rfl ?_
    refine g_putI (pc' := 61) (k := 4) dX0_write_58 rfl rfl ck_1 (by decide) fl_X0_24 rfl rfl rfl rfl ?_
    refine g_vret dX0_write_61 rfl (by decide) (by decide) ?_
    exact ⟨rfl, rfl⟩
def lvH (h : Hp) (t : Nat) (w : Int32) : Hp := wI (wI (wI h (3, t) 7 w) (3, t) 8 (-1)) (3, t) 9 (-1)
set_option maxRecDepth 4000 in
theorem cx_leaveFamily {E : En} (hok : EOK E) {h : Hp} {t : Nat} (w : Int32) : Call E m_X8_leaveFamily 0 0 0 [vR (3, t), vI w] h (fun r h' => r = none ∧ lvH h t w = h') := by
  refine Call.enter hok (by decide) (Nat.le_of_ble_eq_true rfl) ?_
  show G E m_X8_leaveFamily 0 0 0 _ h 0 [some (vR (3, t)), some (vI w)] [] h 0 0
  refine g_aload_n (pc' := 1) dX8_leaveFamily_0 rfl rfl ?_
  refine g_iload_n (pc' := 2) dX8_leaveFamily_1 rfl rfl ?_
  refine g_putI (pc' := 5) (k := 7) dX8_leaveFamily_2 rfl rfl ck_9 (by decide) fl_X8_42 rfl rfl rfl rfl ?_
  refine g_aload_n (pc' := 6) dX8_leaveFamily_5 rfl rfl ?_
  refine g_iconst (v := -1) (pc' := 7) dX8_leaveFamily_6 rfl (by decide) ?_
  refine g_putI (pc' := 10) (k := 8) dX8_leaveFamily_7 rfl rfl ck_9 (by decide) fl_X8_45 rfl rfl rfl rfl ?_
  refine g_aload_n (pc' := 11) dX8_leaveFamily_10 rfl rfl ?_
  refine g_iconst (v := -1) (pc' := 12) dX8_leaveFamily_11 rfl (by decide) ?_
  refine g_putI (pc' := 15) (k := 9) dX8_leaveFamily_12 rfl rfl ck_9 (by decide) fl_X8_48 rfl rfl rfl rfl ?_
  refine g_vret dX8_leaveFamily_15 rfl (by decide) (by decide) ?_
  exact ⟨rfl, rfl⟩
set_option maxRecDepth 4000 in
theorem cx_not {E : En} (hok : EOK E) {h : Hp} {m : St} (hc : Cp m h) (hw : Wf m) (hx : Wx m) {R : Rm} (hCR : CR m h R) (t0 : Int32) (f0 : Int32) : Call E m_X11_not 6 0 0 [vR TH, vI t0, vI f0] h (fun r h' => r = some (vI (sNot m R t0 f0).1) ∧ Cp (sNot m R t0 f0).2 h' ∧ mo h' = mo h) := by
  have hs := hc.s
  have hKb := hw.k.2
  have hTb := hw.t.2
  have hFb := hw.f.2
  have hRb := hw.r.2
  have hGb := hw.g.2
  have hAb := hw.a.2
  have hTlb := hw.tl.2
  have hNwb := hw.w.2
  refine Call.enter hok (by decide) (Nat.le_of_ble_eq_true rfl) ?_
  show G E m_X11_not 6 0 0 _ h 0 [some (vR TH), some (vI t0), some (vI f0), none, none] [] h 0 0
  refine g_aload_n (pc' := 1) dX11_not_0 rfl rfl ?_
  refine g_iload_n (pc' := 2) dX11_not_1 rfl rfl ?_
  rcases Classical.em (∃ j : Nat, j < nT m ∧ t0 = nI j) with w2 | w2
  ·
    have k2 := w2
    obtain ⟨t, ht, rfl⟩ := k2
    refine g_invV (pc' := 5) (cx_toyAt hok hc hw ht) dX11_not_2 rfl rfl ck_12 rfl ml_X11_151 im_X11_toyAt sl_X11_toyAt in_X11 co_X11_toyAt pd_X11_toyAt rfl (by omega) (by decide) ⟨by decide, by decide⟩ (Nat.le_of_ble_eq_true rfl) ?_
    rintro _ _ ⟨rfl, rfl⟩ -
    refine g_astore_n (pc' := 6) dX11_not_5 rfl (by decide) rfl ?_
    try simp only [List.set]
    refine g_aload_n (pc' := 7) dX11_not_6 rfl rfl ?_
    refine g_iload_n (pc' := 8) dX11_not_7 rfl rfl ?_
    rcases Classical.em (∃ j : Nat, j < nF m ∧ f0 = nI j) with w8 | w8
    ·
      have k8 := w8
      obtain ⟨f, hf, rfl⟩ := k8
      refine g_invV (pc' := 11) (cx_familyAt hok hc hw hf) dX11_not_8 rfl rfl ck_12 rfl ml_X11_192 im_X11_familyAt sl_X11_familyAt in_X11 co_X11_familyAt pd_X11_familyAt rfl (by omega) (by decide) ⟨by decide, by decide⟩ (Nat.le_of_ble_eq_true rfl) ?_
      rintro _ _ ⟨rfl, rfl⟩ -
      refine g_astore (pc' := 13) dX11_not_11 rfl (by decide) rfl ?_
      try simp only [List.set]
      refine g_aload_n (pc' := 14) dX11_not_13 rfl rfl ?_
      refine g_ifnull (pc' := 17) dX11_not_14 rfl ?_
      refine g_aload (pc' := 19) dX11_not_17 rfl rfl ?_
      refine g_ifnonnull (tgt := 24) dX11_not_19 (by decide) ?_
      refine g_aload_n (pc' := 25) dX11_not_24 rfl rfl ?_
      refine g_aload_n (pc' := 26) dX11_not_25 rfl rfl ?_
      refine g_aload (pc' := 28) dX11_not_26 rfl rfl ?_
      refine g_invV (pc' := 31) (cx_barrier hok hc hw hx hCR (t := t) (f := f) (by omega) (by omega)) dX11_not_28 rfl rfl ck_12 rfl ml_X11_196 im_X11_barrier sl_X11_barrier in_X11 co_X11_barrier pd_X11_barrier rfl (by omega) (by decide) ⟨by decide, by decide⟩ (Nat.le_of_ble_eq_true rfl) ?_
      rintro _ h1 ⟨rfl, s1⟩ -
      have hn8 := ntF_lt m R t f
      have hc0 := hc
      have hc := hc.sx s1
      have hCR := hCR.sx s1
      have hs := hc.s
      refine g_iret dX11_not_31 rfl (by decide) (by decide) ?_
      have e : sNot m R (nI t) (nI f) = (nI (ntF m R t f), m) := by unfold sNot; simp only [nI_clamp (show t < 2 ^ 31 by omega), nI_clamp (show f < 2 ^ 31 by omega)]; exact cif_t ⟨w2, w8⟩
      rw [e]
      exact ⟨rfl, hc, s1.mo⟩
    ·
      refine g_invV (pc' := 11) (cx_familyAtN hok hc hw w8) dX11_not_8 rfl rfl ck_12 rfl ml_X11_192 im_X11_familyAt sl_X11_familyAt in_X11 co_X11_familyAt pd_X11_familyAt rfl (by omega) (by decide) ⟨by decide, by decide⟩ (Nat.le_of_ble_eq_true rfl) ?_
      rintro _ _ ⟨rfl, rfl⟩ -
      refine g_astore (pc' := 13) dX11_not_11 rfl (by decide) rfl ?_
      try simp only [List.set]
      refine g_aload_n (pc' := 14) dX11_not_13 rfl rfl ?_
      refine g_ifnull (pc' := 17) dX11_not_14 rfl ?_
      refine g_aload (pc' := 19) dX11_not_17 rfl rfl ?_
      refine g_ifnonnullN (pc' := 22) dX11_not_19 rfl ?_
      refine g_iconst (v := -1) (pc' := 23) dX11_not_22 rfl (by decide) ?_
      refine g_iret dX11_not_23 rfl (by decide) (by decide) ?_
      have e : sNot m R (nI t) f0 = (-1, m) := cif_f (fun z => w8 z.2)
      rw [e]
      exact ⟨rfl, hc, rfl⟩
  ·
    refine g_invV (pc' := 5) (cx_toyAtN hok hc hw w2) dX11_not_2 rfl rfl ck_12 rfl ml_X11_151 im_X11_toyAt sl_X11_toyAt in_X11 co_X11_toyAt pd_X11_toyAt rfl (by omega) (by decide) ⟨by decide, by decide⟩ (Nat.le_of_ble_eq_true rfl) ?_
    rintro _ _ ⟨rfl, rfl⟩ -
    refine g_astore_n (pc' := 6) dX11_not_5 rfl (by decide) rfl ?_
    try simp only [List.set]
    refine g_aload_n (pc' := 7) dX11_not_6 rfl rfl ?_
    refine g_iload_n (pc' := 8) dX11_not_7 rfl rfl ?_
    rcases Classical.em (∃ j : Nat, j < nF m ∧ f0 = nI j) with w8 | w8
    ·
      have k8 := w8
      obtain ⟨f, hf, rfl⟩ := k8
      refine g_invV (pc' := 11) (cx_familyAt hok hc hw hf) dX11_not_8 rfl rfl ck_12 rfl ml_X11_192 im_X11_familyAt sl_X11_familyAt in_X11 co_X11_familyAt pd_X11_familyAt rfl (by omega) (by decide) ⟨by decide, by decide⟩ (Nat.le_of_ble_eq_true rfl) ?_
      rintro _ _ ⟨rfl, rfl⟩ -
      refine g_astore (pc' := 13) dX11_not_11 rfl (by decide) rfl ?_
      try simp only [List.set]
      refine g_aload_n (pc' := 14) dX11_not_13 rfl rfl ?_
      refine g_ifnullN (tgt := 22) dX11_not_14 (by decide) ?_
      refine g_iconst (v := -1) (pc' := 23) dX11_not_22 rfl (by decide) ?_
      refine g_iret dX11_not_23 rfl (by decide) (by decide) ?_
      have e : sNot m R t0 (nI f) = (-1, m) := cif_f (fun z => w2 z.1)
      rw [e]
      exact ⟨rfl, hc, rfl⟩
    ·
      refine g_invV (pc' := 11) (cx_familyAtN hok hc hw w8) dX11_not_8 rfl rfl ck_12 rfl ml_X11_192 im_X11_familyAt sl_X11_familyAt in_X11 co_X11_familyAt pd_X11_familyAt rfl (by omega) (by decide) ⟨by decide, by decide⟩ (Nat.le_of_ble_eq_true rfl) ?_
      rintro _ _ ⟨rfl, rfl⟩ -
      refine g_astore (pc' := 13) dX11_not_11 rfl (by decide) rfl ?_
      try simp only [List.set]
      refine g_aload_n (pc' := 14) dX11_not_13 rfl rfl ?_
      refine g_ifnullN (tgt := 22) dX11_not_14 (by decide) ?_
      refine g_iconst (v := -1) (pc' := 23) dX11_not_22 rfl (by decide) ?_
      refine g_iret dX11_not_23 rfl (by decide) (by decide) ?_
      have e : sNot m R t0 f0 = (-1, m) := cif_f (fun z => w2 z.1)
      rw [e]
      exact ⟨rfl, hc, rfl⟩
theorem Wx.le300 {m : St} (hx : Wx m) : nI 300 ≤ m 1 71 ↔ m 1 71 = nI 300 := by
  obtain ⟨n, hn, e⟩ := hx.le
  rw [e, nI_leI (by omega) (by omega), nI_eq (by omega) (by omega)]
  omega
set_option maxRecDepth 4000 in
theorem cx_lend {E : En} (hok : EOK E) {h : Hp} {m : St} (hc : Cp m h) (hw : Wf m) (hx : Wx m) {R : Rm} (hCR : CR m h R) (t0 : Int32) (f0 : Int32) : Call E m_X11_lend 6 0 0 [vR TH, vI t0, vI f0] h (fun r h' => r = some (vI (sLend m R t0 f0).1) ∧ Cp (sLend m R t0 f0).2 h' ∧ mo h' = mo h) := by
  have hs := hc.s
  have hKb := hw.k.2
  have hTb := hw.t.2
  have hFb := hw.f.2
  have hRb := hw.r.2
  have hGb := hw.g.2
  have hAb := hw.a.2
  have hTlb := hw.tl.2
  have hNwb := hw.w.2
  refine Call.enter hok (by decide) (Nat.le_of_ble_eq_true rfl) ?_
  show G E m_X11_lend 6 0 0 _ h 0 [some (vR TH), some (vI t0), some (vI f0), none, none, none] [] h 0 0
  refine g_aload_n (pc' := 1) dX11_lend_0 rfl rfl ?_
  refine g_iload_n (pc' := 2) dX11_lend_1 rfl rfl ?_
  rcases Classical.em (∃ j : Nat, j < nT m ∧ t0 = nI j) with w2 | w2
  ·
    have k2 := w2
    obtain ⟨t, ht, rfl⟩ := k2
    refine g_invV (pc' := 5) (cx_toyAt hok hc hw ht) dX11_lend_2 rfl rfl ck_12 rfl ml_X11_151 im_X11_toyAt sl_X11_toyAt in_X11 co_X11_toyAt pd_X11_toyAt rfl (by omega) (by decide) ⟨by decide, by decide⟩ (Nat.le_of_ble_eq_true rfl) ?_
    rintro _ _ ⟨rfl, rfl⟩ -
    refine g_astore_n (pc' := 6) dX11_lend_5 rfl (by decide) rfl ?_
    try simp only [List.set]
    refine g_aload_n (pc' := 7) dX11_lend_6 rfl rfl ?_
    refine g_iload_n (pc' := 8) dX11_lend_7 rfl rfl ?_
    rcases Classical.em (∃ j : Nat, j < nF m ∧ f0 = nI j) with w8 | w8
    ·
      have k8 := w8
      obtain ⟨f, hf, rfl⟩ := k8
      refine g_invV (pc' := 11) (cx_familyAt hok hc hw hf) dX11_lend_8 rfl rfl ck_12 rfl ml_X11_192 im_X11_familyAt sl_X11_familyAt in_X11 co_X11_familyAt pd_X11_familyAt rfl (by omega) (by decide) ⟨by decide, by decide⟩ (Nat.le_of_ble_eq_true rfl) ?_
      rintro _ _ ⟨rfl, rfl⟩ -
      refine g_astore (pc' := 13) dX11_lend_11 rfl (by decide) rfl ?_
      try simp only [List.set]
      refine g_aload_n (pc' := 14) dX11_lend_13 rfl rfl ?_
      refine g_ifnull (pc' := 17) dX11_lend_14 rfl ?_
      refine g_aload (pc' := 19) dX11_lend_17 rfl rfl ?_
      refine g_ifnull (pc' := 22) dX11_lend_19 rfl ?_
      refine g_aload_n (pc' := 23) dX11_lend_22 rfl rfl ?_
      refine g_getS (pc' := 26) (k := 15) (b := (8, 0)) dX11_lend_23 rfl rfl ck_12 (by decide) fl_X11_63 rfl hs rfl ?_
      refine g_getIv (v := m 1 71) (pc' := 29) (k := 5) dX11_lend_26 rfl rfl ck_1 (by decide) fl_X11_200 rfl (hc.c10.2.1) ?_
      refine g_sipushN (n := 300) (pc' := 32) dX11_lend_29 rfl (by decide) ?_
      refine g_icmp_ge (tgt := 45) (pc' := 35) dX11_lend_32 rfl (by decide) (fun c32 => ?_) (fun c32 => ?_)
      ·
        refine g_iconst (v := -1) (pc' := 46) dX11_lend_45 rfl (by decide) ?_
        refine g_iret dX11_lend_46 rfl (by decide) (by decide) ?_
        have e : sLend m R (nI t) (nI f) = (-1, m) := cif_f (fun z => z.2.2.1 (hx.le300.mp c32))
        rw [e]
        exact ⟨rfl, hc, rfl⟩
      ·
        refine g_aload_n (pc' := 36) dX11_lend_35 rfl rfl ?_
        refine g_aload_n (pc' := 37) dX11_lend_36 rfl rfl ?_
        refine g_aload (pc' := 39) dX11_lend_37 rfl rfl ?_
        refine g_invV (pc' := 42) (cx_barrier hok hc hw hx hCR (t := t) (f := f) (by omega) (by omega)) dX11_lend_39 rfl rfl ck_12 rfl ml_X11_196 im_X11_barrier sl_X11_barrier in_X11 co_X11_barrier pd_X11_barrier rfl (by omega) (by decide) ⟨by decide, by decide⟩ (Nat.le_of_ble_eq_true rfl) ?_
        rintro _ h1 ⟨rfl, s1⟩ -
        have hn8 := ntF_lt m R t f
        have hc0 := hc
        have hc := hc.sx s1
        have hCR := hCR.sx s1
        have hs := hc.s
        refine g_if_eqN (tgt := 47) (pc' := 45) dX11_lend_42 rfl (by decide) (by omega) (fun c42 => ?_) (fun c42 => ?_)
        ·
          have hkd := (hw.kd ht).2
          refine g_aload_n (pc' := 48) dX11_lend_47 rfl rfl ?_
          refine g_aload_n (pc' := 49) dX11_lend_48 rfl rfl ?_
          refine g_getR (pc' := 52) (k := 1) (r := some (2, kd m t)) dX11_lend_49 rfl rfl ck_9 (by decide) fl_X11_203 rfl ((hc.c6.2.1 _ (by omega)).1) ?_
          refine g_aload_n (pc' := 53) dX11_lend_52 rfl rfl ?_
          refine g_aload (pc' := 55) dX11_lend_53 rfl rfl ?_
          refine g_iconstN (n := 0) (pc' := 56) dX11_lend_55 rfl ?_
          refine g_invV (pc' := 59) (cx_writeLettersT hok hc hw hx (k := kd m t) (f := f) (by omega) (by omega) (t := t) (by omega) _) dX11_lend_56 rfl rfl ck_12 rfl ml_X11_207 im_X11_writeLetters sl_X11_writeLetters in_X11 co_X11_writeLetters pd_X11_writeLetters rfl (by omega) (by decide) ⟨by decide, by decide⟩ (Nat.le_of_ble_eq_true rfl) ?_
          rintro _ h2 ⟨rfl, w2_, l2⟩ -
          obtain ⟨ti, hq2⟩ := Tq_of hs hCR w2_ l2
          have hc := hc.lw w2_
          have hs := hq2.1
          refine g_aload_n (pc' := 60) dX11_lend_59 rfl rfl ?_
          refine g_getS (pc' := 63) (k := 14) (b := (7, 0)) dX11_lend_60 rfl rfl ck_12 (by decide) fl_X11_56 rfl hs rfl ?_
          refine g_bipushN (n := 100) (pc' := 65) dX11_lend_63 rfl (by decide) ?_
          refine g_bipushN (n := 21) (pc' := 67) dX11_lend_65 rfl (by decide) ?_
          refine g_iconstN (n := 1) (pc' := 68) dX11_lend_67 rfl ?_
          refine g_sipushN (n := 200) (pc' := 71) dX11_lend_68 rfl (by decide) ?_
          refine g_invV (pc' := 74) (cx_firstValue hok hw hq2 _ _ _ _ (by decide) (Or.inl rfl)) dX11_lend_71 rfl rfl ck_6 rfl ml_X11_211 im_X5_firstValue sl_X5_firstValue in_X5 co_X5_firstValue pd_X5_firstValue rfl (by omega) (by decide) ⟨by decide, by decide⟩ (Nat.le_of_ble_eq_true rfl) ?_
          rintro _ h3 ⟨rfl, w3⟩ -
          have hc := hc.rk w3
          have hs := hc.s
          refine g_istore (pc' := 76) dX11_lend_74 rfl (by decide) rfl ?_
          try simp only [List.set]
          refine g_aload_n (pc' := 77) dX11_lend_76 rfl rfl ?_
          refine g_aload (pc' := 79) dX11_lend_77 rfl rfl ?_
          refine g_getIv (v := nI (f)) (pc' := 82) (k := 0) dX11_lend_79 rfl rfl ck_2 (by decide) fl_X11_144 rfl (hc.f0 (f := f) (by omega)) ?_
          refine g_aload_n (pc' := 83) dX11_lend_82 rfl rfl ?_
          refine g_getIv (v := m 1 2) (pc' := 86) (k := 0) dX11_lend_83 rfl rfl ck_12 (by decide) fl_X11_95 rfl (hc.c1.1) ?_
          refine g_aload_n (pc' := 87) dX11_lend_86 rfl rfl ?_
          refine g_getIv (v := m 1 2) (pc' := 90) (k := 0) dX11_lend_87 rfl rfl ck_12 (by decide) fl_X11_95 rfl (hc.c1.1) ?_
          refine g_iload (pc' := 92) dX11_lend_90 rfl rfl ?_
          refine g_iadd (pc' := 93) dX11_lend_92 rfl ?_
          refine g_invV (pc' := 96) (cx_goOut hok _ _ _) dX11_lend_93 rfl rfl ck_9 rfl ml_X11_215 im_X8_goOut sl_X8_goOut in_X8 co_X8_goOut pd_X8_goOut rfl (by omega) (by decide) ⟨by decide, by decide⟩ (Nat.le_of_ble_eq_true rfl) ?_
          rintro _ _ ⟨rfl, rfl⟩ -
          refine g_aload (pc' := 98) dX11_lend_96 rfl rfl ?_
          refine g_aload_n (pc' := 99) dX11_lend_98 rfl rfl ?_
          refine g_getR (pc' := 102) (k := 1) (r := some (2, kd m t)) dX11_lend_99 rfl rfl ck_9 (by decide) fl_X11_203 rfl ((hc.c6.2.1 _ (by omega)).1) ?_
          refine g_getIv (v := nI (kd m t)) (pc' := 105) (k := 0) dX11_lend_102 rfl rfl ck_3 (by decide) fl_X11_116 rfl (hc.k0 (k := kd m t) (by omega)) ?_
          refine g_invV (pc' := 108) (cx_stopWaiting hok (by exact hs) (f := f) (k := kd m t) (by omega)) dX11_lend_105 rfl rfl ck_2 rfl ml_X11_219 im_X1_stopWaiting sl_X1_stopWaiting in_X1 co_X1_stopWaiting pd_X1_stopWaiting rfl (by omega) (by decide) ⟨by decide, by decide⟩ (Nat.le_of_ble_eq_true rfl) ?_
          rintro _ _ ⟨rfl, rfl⟩ -
          refine g_aload_n (pc' := 109) dX11_lend_108 rfl rfl ?_
          refine g_getS (pc' := 112) (k := 15) (b := (8, 0)) dX11_lend_109 rfl rfl ck_12 (by decide) fl_X11_63 rfl hs rfl ?_
          refine g_dup (pc' := 113) dX11_lend_112 rfl rfl ?_
          refine g_getIv (v := m 1 71) (pc' := 116) (k := 5) dX11_lend_113 rfl rfl ck_1 (by decide) fl_X11_200 rfl (hc.c10.2.1) ?_
          refine g_iconstN (n := 1) (pc' := 117) dX11_lend_116 rfl ?_
          refine g_iadd (pc' := 118) dX11_lend_117 rfl ?_
          refine g_putI (pc' := 121) (k := 5) dX11_lend_118 rfl rfl ck_1 (by decide) fl_X11_200 rfl rfl rfl rfl ?_
          refine g_aload_n (pc' := 122) dX11_lend_121 rfl rfl ?_
          refine g_getS (pc' := 125) (k := 15) (b := (8, 0)) dX11_lend_122 rfl rfl ck_12 (by decide) fl_X11_63 rfl hs rfl ?_
          refine g_aload_n (pc' := 126) dX11_lend_125 rfl rfl ?_
          refine g_getIv (v := nI (t)) (pc' := 129) (k := 0) dX11_lend_126 rfl rfl ck_9 (by decide) fl_X11_138 rfl (by simp [goH, wI_at]; exact hc.t0 (t := t) ht) ?_
          refine g_aload_n (pc' := 130) dX11_lend_129 rfl rfl ?_
          refine g_getIv (v := m 1 2) (pc' := 133) (k := 0) dX11_lend_130 rfl rfl ck_12 (by decide) fl_X11_95 rfl (hc.c1.1) ?_
          refine g_aload_n (pc' := 134) dX11_lend_133 rfl rfl ?_
          refine g_getIv (v := m 1 2) (pc' := 137) (k := 0) dX11_lend_134 rfl rfl ck_12 (by decide) fl_X11_95 rfl (hc.c1.1) ?_
          refine g_aload_n (pc' := 138) dX11_lend_137 rfl rfl ?_
          refine g_getIv (v := m 1 7) (pc' := 141) (k := 2) dX11_lend_138 rfl rfl ck_12 (by decide) fl_X11_148 rfl (hc.c1.2.2.1) ?_
          refine g_iadd (pc' := 142) dX11_lend_141 rfl ?_
          refine g_iconstN (n := 1) (pc' := 143) dX11_lend_142 rfl ?_
          refine g_aload (pc' := 145) dX11_lend_143 rfl rfl ?_
          refine g_getIv (v := nI (f)) (pc' := 148) (k := 0) dX11_lend_145 rfl rfl ck_2 (by decide) fl_X11_144 rfl (hc.f0 (f := f) (by omega)) ?_
          refine g_iaddN (pc' := 149) dX11_lend_148 rfl ?_
          refine g_invV (pc' := 152) (cx_write hok (by exact hs) (n := nA m) (by omega) (by exact hc.c10.1.trans hw.a.1) _ _ _ _) dX11_lend_149 rfl rfl ck_1 rfl ml_X11_222 im_X0_write sl_X0_write in_X0 co_X0_write pd_X0_write rfl (by omega) (by decide) ⟨by decide, by decide⟩ (Nat.le_of_ble_eq_true rfl) ?_
          rintro _ _ ⟨rfl, rfl⟩ -
          refine g_aload_n (pc' := 153) dX11_lend_152 rfl rfl ?_
          refine g_getIv (v := dueF m R t f) (pc' := 156) (k := 9) dX11_lend_153 rfl rfl ck_9 (by decide) fl_X11_225 rfl (by simp [goH, dwH, wI_at]; rfl) ?_
          refine g_iret dX11_lend_156 rfl (by decide) (by decide) ?_
          have e : sLend m R (nI t) (nI f) = (dueF m R t f, lendS m t f (dueF m R t f)) := by unfold sLend; simp only [nI_clamp (show t < 2 ^ 31 by omega), nI_clamp (show f < 2 ^ 31 by omega)]; exact cif_t ⟨w2, w8, fun z => c32 (hx.le300.mpr z), c42⟩
          rw [e]
          have e13 : h3.1 (3, t) 13 = m 122 t := hc.t13 (t := t) ht
          have k6 : C6 (stU (stU (stU (stU (stU m 118 t (nI 1)) 119 t (nI f)) 121 t (m 1 2)) 120 t (dueF m R t f)) 122 t (m 122 t + nI 1)) (goH h3 t (nI f) (m 1 2) (dueF m R t f)) := by
            unfold goH
            rw [e13]
            exact C6_times (C6_due (C6_lentOn (C6_holder (C6_place hc.c6 t (nI 1) (Or.inr (by decide))) t _) t _) t _) t _
          have k8 := C8_since hc.c8 (f := f) (k := kd m t) (by omega) (-1)
          have k10 := C10_wrt (C10_lends hc.c10 (m 1 71 + nI 1)) (t := nI t) (w := nI (1 + f)) hAb
          have k11 := C11_wrt (h' := h3) (t := nI t) (w := nI (1 + f)) hc.c11 hAb (fun _ => rfl) rfl
          refine ⟨rfl, ?_, ?_⟩
          · exact Cp.upd hc rfl (hc.c1) (hc.c2) (C6.same k6 rfl (fun _ => rfl) (fun _ => rfl) (fun _ => rfl) rfl rfl rfl rfl rfl rfl rfl rfl rfl rfl rfl rfl) (C7.same hc.c7 (fun u => by simp [goH, dwH, wI_at]) (fun _ => rfl) (fun _ => rfl) rfl rfl rfl rfl rfl) (C8.same k8 rfl (fun _ _ _ => rfl) (fun _ => rfl) (fun _ => rfl) rfl rfl rfl rfl rfl rfl) (k10) (C11.same k11 rfl rfl rfl rfl rfl rfl (fun _ => rfl) rfl) (hc.c13) (fun _ => rfl) (fun _ => rfl) (fun _ => rfl) (fun _ => rfl) (fun _ => rfl) (fun _ => rfl) (fun _ => rfl) (fun _ => rfl) (fun _ => rfl) (fun _ => rfl) (fun _ => rfl) (fun _ => rfl) (fun _ => rfl) (fun _ => rfl) (fun _ => rfl) rfl rfl rfl rfl rfl rfl rfl rfl rfl rfl rfl rfl rfl rfl rfl rfl rfl rfl rfl rfl rfl rfl rfl rfl
          · refine (mo_same (fun b q => ?_)).trans (w3.mo.trans (w2_.mo.trans s1.mo))
            have ne : ∀ s, kS s = 0 → ∀ i, b ≠ (s, i) := fun s z i y => by rw [y] at q; exact q z
            unfold dwH goH
            rw [wI_off _ _ _ _ b (ne 8 rfl 0), wI_off _ _ _ _ b (ne 34 rfl 0), wI_off _ _ _ _ b (ne 33 rfl 0), wI_off _ _ _ _ b (ne 32 rfl 0), wI_off _ _ _ _ b (ne 31 rfl 0), wI_off _ _ _ _ b (ne 8 rfl 0), wI_off _ _ _ _ b (ne 29 rfl f), wI_off _ _ _ _ b (ne 3 rfl t), wI_off _ _ _ _ b (ne 3 rfl t), wI_off _ _ _ _ b (ne 3 rfl t), wI_off _ _ _ _ b (ne 3 rfl t), wI_off _ _ _ _ b (ne 3 rfl t)]
        ·
          refine g_iconst (v := -1) (pc' := 46) dX11_lend_45 rfl (by decide) ?_
          refine g_iret dX11_lend_46 rfl (by decide) (by decide) ?_
          have e : sLend m R (nI t) (nI f) = (-1, m) := by unfold sLend; simp only [nI_clamp (show t < 2 ^ 31 by omega), nI_clamp (show f < 2 ^ 31 by omega)]; exact cif_f (fun z => c42 z.2.2.2)
          rw [e]
          exact ⟨rfl, hc, s1.mo⟩
    ·
      refine g_invV (pc' := 11) (cx_familyAtN hok hc hw w8) dX11_lend_8 rfl rfl ck_12 rfl ml_X11_192 im_X11_familyAt sl_X11_familyAt in_X11 co_X11_familyAt pd_X11_familyAt rfl (by omega) (by decide) ⟨by decide, by decide⟩ (Nat.le_of_ble_eq_true rfl) ?_
      rintro _ _ ⟨rfl, rfl⟩ -
      refine g_astore (pc' := 13) dX11_lend_11 rfl (by decide) rfl ?_
      try simp only [List.set]
      refine g_aload_n (pc' := 14) dX11_lend_13 rfl rfl ?_
      refine g_ifnull (pc' := 17) dX11_lend_14 rfl ?_
      refine g_aload (pc' := 19) dX11_lend_17 rfl rfl ?_
      refine g_ifnullN (tgt := 45) dX11_lend_19 (by decide) ?_
      refine g_iconst (v := -1) (pc' := 46) dX11_lend_45 rfl (by decide) ?_
      refine g_iret dX11_lend_46 rfl (by decide) (by decide) ?_
      have e : sLend m R (nI t) f0 = (-1, m) := cif_f (fun z => w8 z.2.1)
      rw [e]
      exact ⟨rfl, hc, rfl⟩
  ·
    refine g_invV (pc' := 5) (cx_toyAtN hok hc hw w2) dX11_lend_2 rfl rfl ck_12 rfl ml_X11_151 im_X11_toyAt sl_X11_toyAt in_X11 co_X11_toyAt pd_X11_toyAt rfl (by omega) (by decide) ⟨by decide, by decide⟩ (Nat.le_of_ble_eq_true rfl) ?_
    rintro _ _ ⟨rfl, rfl⟩ -
    refine g_astore_n (pc' := 6) dX11_lend_5 rfl (by decide) rfl ?_
    try simp only [List.set]
    refine g_aload_n (pc' := 7) dX11_lend_6 rfl rfl ?_
    refine g_iload_n (pc' := 8) dX11_lend_7 rfl rfl ?_
    rcases Classical.em (∃ j : Nat, j < nF m ∧ f0 = nI j) with w8 | w8
    ·
      have k8 := w8
      obtain ⟨f, hf, rfl⟩ := k8
      refine g_invV (pc' := 11) (cx_familyAt hok hc hw hf) dX11_lend_8 rfl rfl ck_12 rfl ml_X11_192 im_X11_familyAt sl_X11_familyAt in_X11 co_X11_familyAt pd_X11_familyAt rfl (by omega) (by decide) ⟨by decide, by decide⟩ (Nat.le_of_ble_eq_true rfl) ?_
      rintro _ _ ⟨rfl, rfl⟩ -
      refine g_astore (pc' := 13) dX11_lend_11 rfl (by decide) rfl ?_
      try simp only [List.set]
      refine g_aload_n (pc' := 14) dX11_lend_13 rfl rfl ?_
      refine g_ifnullN (tgt := 45) dX11_lend_14 (by decide) ?_
      refine g_iconst (v := -1) (pc' := 46) dX11_lend_45 rfl (by decide) ?_
      refine g_iret dX11_lend_46 rfl (by decide) (by decide) ?_
      have e : sLend m R t0 (nI f) = (-1, m) := cif_f (fun z => w2 z.1)
      rw [e]
      exact ⟨rfl, hc, rfl⟩
    ·
      refine g_invV (pc' := 11) (cx_familyAtN hok hc hw w8) dX11_lend_8 rfl rfl ck_12 rfl ml_X11_192 im_X11_familyAt sl_X11_familyAt in_X11 co_X11_familyAt pd_X11_familyAt rfl (by omega) (by decide) ⟨by decide, by decide⟩ (Nat.le_of_ble_eq_true rfl) ?_
      rintro _ _ ⟨rfl, rfl⟩ -
      refine g_astore (pc' := 13) dX11_lend_11 rfl (by decide) rfl ?_
      try simp only [List.set]
      refine g_aload_n (pc' := 14) dX11_lend_13 rfl rfl ?_
      refine g_ifnullN (tgt := 45) dX11_lend_14 (by decide) ?_
      refine g_iconst (v := -1) (pc' := 46) dX11_lend_45 rfl (by decide) ?_
      refine g_iret dX11_lend_46 rfl (by decide) (by decide) ?_
      have e : sLend m R t0 f0 = (-1, m) := cif_f (fun z => w2 z.1)
      rw [e]
      exact ⟨rfl, hc, rfl⟩
