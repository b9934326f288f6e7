theorem C3.same {m m' : St} {h h' : Hp} (c : C3 m h) (h21 : ∀ i, h'.1 (21, i) = h.1 (21, i)) (m191 : m' 191 = m 191)  : C3 m' h' := by
  have q := c
  unfold C3 at *
  simp only [h21, m191]
  exact q
theorem C4.same {m m' : St} {h h' : Hp} (c : C4 m h) (h22 : ∀ i, h'.1 (22, i) = h.1 (22, i)) (m187 : m' 187 = m 187)  : C4 m' h' := by
  have q := c
  unfold C4 at *
  simp only [h22, m187]
  exact q
theorem C5.same {m m' : St} {h h' : Hp} (c : C5 m h) (e2 : h'.2 = h.2) (h13 : ∀ i, h'.1 (13, i) = h.1 (13, i)) (h2 : ∀ i, h'.1 (2, i) = h.1 (2, i)) (h24 : ∀ i, h'.1 (24, i) = h.1 (24, i)) (h25 : ∀ i, h'.1 (25, i) = h.1 (25, i)) (m108 : m' 108 = m 108) (m109 : m' 109 = m 109) (m110 : m' 110 = m 110) (m111 : m' 111 = m 111) (m112 : m' 112 = m 112) (m113 : m' 113 = m 113) (m114 : m' 114 = m 114) (cnK : nK m' = nK m) : C5 m' h' := by
  have q := c
  unfold C5 Ls at *
  simp only [e2, h13, h2, h24, h25, m108, m109, m110, m111, m112, m113, m114, cnK]
  exact q
theorem C6.same {m m' : St} {h h' : Hp} (c : C6 m h) (e2 : h'.2 = h.2) (h13 : ∀ i, h'.1 (13, i) = h.1 (13, i)) (h3 : ∀ i, h'.1 (3, i) = h.1 (3, i)) (h26 : ∀ i, h'.1 (26, i) = h.1 (26, i)) (m115 : m' 115 = m 115) (m116 : m' 116 = m 116) (m117 : m' 117 = m 117) (m118 : m' 118 = m 118) (m119 : m' 119 = m 119) (m120 : m' 120 = m 120) (m121 : m' 121 = m 121) (m122 : m' 122 = m 122) (m123 : m' 123 = m 123) (m124 : m' 124 = m 124) (m125 : m' 125 = m 125) (cnT : nT m' = nT m) : C6 m' h' := by
  have q := c
  have ek : ∀ t, kd m' t = kd m t := fun t => by unfold kd; rw [m115]
  unfold C6 Ls at *
  simp only [e2, h13, h3, h26, m115, m116, m117, m118, m119, m120, m121, m122, m123, m124, m125, cnT, ek]
  exact q
theorem C7.same {m m' : St} {h h' : Hp} (c : C7 m h) (h3 : ∀ i, h'.1 (3, i) 6 = h.1 (3, i) 6) (h27 : ∀ i, h'.1 (27, i) = h.1 (27, i)) (h28 : ∀ i, h'.1 (28, i) = h.1 (28, i)) (m167 : m' 167 = m 167) (m168 : m' 168 = m 168) (m169 : m' 169 = m 169) (cnT : nT m' = nT m) (cnGf : nGf m' = nGf m) : C7 m' h' := by
  have q := c
  unfold C7 at *
  simp only [h3, h27, h28, m167, m168, m169, cnT, cnGf]
  exact q
theorem C8.same {m m' : St} {h h' : Hp} (c : C8 m h) (e2 : h'.2 = h.2) (h4 : ∀ i j, j < 6 → h'.1 (4, i) j = h.1 (4, i) j) (h13 : ∀ i, h'.1 (13, i) = h.1 (13, i)) (h29 : ∀ i, h'.1 (29, i) = h.1 (29, i)) (m126 : m' 126 = m 126) (m127 : m' 127 = m 127) (m128 : m' 128 = m 128) (m129 : m' 129 = m 129) (m186 : m' 186 = m 186) (cnF : nF m' = nF m) : C8 m' h' := by
  have q := c
  unfold C8 Ls at *
  simp only [h4 _ 0 (by decide), h4 _ 1 (by decide), h4 _ 2 (by decide), h4 _ 3 (by decide), h4 _ 5 (by decide), e2, h13, h29, m126, m127, m128, m129, m186, cnF]
  exact q
theorem C9.same {m m' : St} {h h' : Hp} (c : C9 m h) (e2 : h'.2 = h.2) (h13 : ∀ i, h'.1 (13, i) = h.1 (13, i)) (h5 : ∀ i, h'.1 (5, i) = h.1 (5, i)) (h30 : ∀ i, h'.1 (30, i) = h.1 (30, i)) (m161 : m' 161 = m 161) (m162 : m' 162 = m 162) (m163 : m' 163 = m 163) (m164 : m' 164 = m 164) (m165 : m' 165 = m 165) (m166 : m' 166 = m 166) (cnR : nR m' = nR m) : C9 m' h' := by
  have q := c
  unfold C9 Ls at *
  simp only [e2, h13, h5, h30, m161, m162, m163, m164, m165, m166, cnR]
  exact q
theorem C10.same {m m' : St} {h h' : Hp} (c : C10 m h) (h8 : ∀ i, h'.1 (8, i) = h.1 (8, i)) (g70 : m' 1 70 = m 1 70) (g71 : m' 1 71 = m 1 71) (h31 : ∀ i, h'.1 (31, i) = h.1 (31, i)) (h32 : ∀ i, h'.1 (32, i) = h.1 (32, i)) (h33 : ∀ i, h'.1 (33, i) = h.1 (33, i)) (h34 : ∀ i, h'.1 (34, i) = h.1 (34, i)) (m172 : m' 172 = m 172) (m173 : m' 173 = m 173) (m174 : m' 174 = m 174) (m175 : m' 175 = m 175) (cnA : nA m' = nA m) : C10 m' h' := by
  have q := c
  unfold C10 at *
  simp only [h8, g70, g71, h31, h32, h33, h34, m172, m173, m174, m175, cnA]
  exact q
theorem WR.same {m m' : St} {R : Rm} (c : WR m R) (m131 : m' 131 = m 131) (m132 : m' 132 = m 132) (m133 : m' 133 = m 133) (m134 : m' 134 = m 134) (m135 : m' 135 = m 135) (m136 : m' 136 = m 136) (cC : nC m' = nC m) : WR m' R := by
  have q := c
  unfold WR at *
  simp only [m131, m132, m133, m134, m135, m136, cC]
  exact q
theorem CR.same {m m' : St} {h h' : Hp} {R : Rm} (c : CR m h R) (e2 : h'.2 = h.2) (h6 : ∀ i, h'.1 (6, i) 10 = h.1 (6, i) 10) (h35 : ∀ i, h'.1 (35, i) = h.1 (35, i)) (h36 : ∀ i, h'.1 (36, i) = h.1 (36, i)) (h37 : ∀ i, h'.1 (37, i) = h.1 (37, i)) (h38 : ∀ i, h'.1 (38, i) = h.1 (38, i)) (h39 : ∀ i, h'.1 (39, i) = h.1 (39, i)) (h40 : ∀ i, h'.1 (40, i) = h.1 (40, i)) (m131 : m' 131 = m 131) (g30 : m' 1 30 = m 1 30) : CR m' h' R := by
  have q := c
  have cC : nC m' = nC m := by unfold nC; rw [g30]
  unfold CR CT at *
  simp only [e2, h6, h35, h36, h37, h38, h39, h40, m131, g30, cC]
  exact q
/-- the parts that most calls leave as they are -/
theorem Cp.upd {m m' : St} {h h' : Hp} (c : Cp m h) (e2 : h'.2 = h.2) (k1 : C1 m' h') (k2 : C2 m' h') (k6 : C6 m' h') (k7 : C7 m' h') (k8 : C8 m' h') (k10 : C10 m' h') (k11 : C11 m' h') (k13 : C13 h') (h21 : ∀ i, h'.1 (21, i) = h.1 (21, i)) (h22 : ∀ i, h'.1 (22, i) = h.1 (22, i)) (h13 : ∀ i, h'.1 (13, i) = h.1 (13, i)) (h2 : ∀ i, h'.1 (2, i) = h.1 (2, i)) (h24 : ∀ i, h'.1 (24, i) = h.1 (24, i)) (h25 : ∀ i, h'.1 (25, i) = h.1 (25, i)) (h5 : ∀ i, h'.1 (5, i) = h.1 (5, i)) (h30 : ∀ i, h'.1 (30, i) = h.1 (30, i)) (h6 : ∀ i, h'.1 (6, i) = h.1 (6, i)) (h35 : ∀ i, h'.1 (35, i) = h.1 (35, i)) (h36 : ∀ i, h'.1 (36, i) = h.1 (36, i)) (h37 : ∀ i, h'.1 (37, i) = h.1 (37, i)) (h38 : ∀ i, h'.1 (38, i) = h.1 (38, i)) (h39 : ∀ i, h'.1 (39, i) = h.1 (39, i)) (h40 : ∀ i, h'.1 (40, i) = h.1 (40, i)) (m191 : m' 191 = m 191) (m187 : m' 187 = m 187) (m108 : m' 108 = m 108) (m109 : m' 109 = m 109) (m110 : m' 110 = m 110) (m111 : m' 111 = m 111) (m112 : m' 112 = m 112) (m113 : m' 113 = m 113) (m114 : m' 114 = m 114) (m161 : m' 161 = m 161) (m162 : m' 162 = m 162) (m163 : m' 163 = m 163) (m164 : m' 164 = m 164) (m165 : m' 165 = m 165) (m166 : m' 166 = m 166) (m131 : m' 131 = m 131) (m132 : m' 132 = m 132) (m133 : m' 133 = m 133) (m134 : m' 134 = m 134) (m135 : m' 135 = m 135) (m136 : m' 136 = m 136) (g3 : m' 1 3 = m 1 3) (g59 : m' 1 59 = m 1 59) (g30 : m' 1 30 = m 1 30) : Cp m' h' := by
  have cK : nK m' = nK m := by unfold nK; rw [g3]
  have cR : nR m' = nR m := by unfold nR; rw [g59]
  have cC : nC m' = nC m := by unfold nC; rw [g30]
  obtain ⟨R, w1, w2⟩ := c.c12
  exact ⟨by rw [e2]; exact c.s, by unfold Al; rw [e2]; exact c.e, k1, k2, c.c3.same h21 m191, c.c4.same h22 m187, c.c5.same e2 h13 h2 h24 h25 m108 m109 m110 m111 m112 m113 m114 cK, k6, k7, k8, c.c9.same e2 h13 h5 h30 m161 m162 m163 m164 m165 m166 cR, k10, k11, ⟨R, w1.same m131 m132 m133 m134 m135 m136 cC, w2.same e2 (fun i => by rw [h6 i]) h35 h36 h37 h38 h39 h40 m131 g30⟩, k13⟩
/-- the reckoning's scratch alone -/
def Sx (h h' : Hp) : Prop := h'.2 = h.2 ∧ ∀ b : Ad, b.1 ≠ 7 → b.1 ≠ 42 → b.1 ≠ 43 → h'.1 b = h.1 b
theorem Sx.rf (h : Hp) : Sx h h := ⟨rfl, fun _ _ _ _ => rfl⟩
theorem Sx.tr {a b c : Hp} (x : Sx a b) (y : Sx b c) : Sx a c := ⟨y.1.trans x.1, fun q u v w => (y.2 q u v w).trans (x.2 q u v w)⟩
theorem Lw.sx {h h' : Hp} (k : Lw h h') : Sx h h' := ⟨k.1, fun b _ q _ => k.2 b (ad_ne q)⟩
theorem Rk.sx {h h' : Hp} {a : Nat} (k : Rk a h h') : Sx h h' := ⟨k.1, fun b p _ q => k.2.1 b (ad_ne p) (ad_ne q)⟩
theorem Sx.mo {h h' : Hp} (k : Sx h h') : mo h' = mo h := mo_same (fun b q => k.2 b (fun z => by rw [z] at q; exact q rfl) (fun z => by rw [z] at q; exact q rfl) (fun z => by rw [z] at q; exact q rfl))
theorem Cp.sx {m : St} {h h' : Hp} (c : Cp m h) (k : Sx h h') : Cp m h' := by
  refine c.same k.1 (fun b q => k.2 b (fun z => by rw [z] at q; cases q) (fun z => by rw [z] at q; cases q) (fun z => by rw [z] at q; cases q)) ?_
  have q := c.c13
  unfold C13 at *
  have f : ∀ s, s ≠ 7 → s ≠ 42 → s ≠ 43 → h'.1 (s, 0) = h.1 (s, 0) := fun s a b d => k.2 (s, 0) a b d
  rw [k.1, f 46 (by decide) (by decide) (by decide), f 47 (by decide) (by decide) (by decide), f 48 (by decide) (by decide) (by decide), f 58 (by decide) (by decide) (by decide)]
  exact q
theorem CR.sx {m : St} {R : Rm} {h h' : Hp} (c : CR m h R) (k : Sx h h') : CR m h' R := by
  have f : ∀ s, s ≠ 7 → s ≠ 42 → s ≠ 43 → ∀ i, h'.1 (s, i) = h.1 (s, i) := fun s a b d i => k.2 (s, i) a b d
  exact c.same k.1 (fun i => by rw [f 6 (by decide) (by decide) (by decide)]) (f 35 (by decide) (by decide) (by decide)) (f 36 (by decide) (by decide) (by decide)) (f 37 (by decide) (by decide) (by decide)) (f 38 (by decide) (by decide) (by decide)) (f 39 (by decide) (by decide) (by decide)) (f 40 (by decide) (by decide) (by decide)) rfl rfl
/-- the letters are set: the rules can be asked -/
theorem Tq_of {m : St} {R : Rm} {e : Nat → Int32} {h h' : Hp} (hs : Shp h.2) (c : CR m h R) (k : Lw h h') (q : ∀ l, isLt l → h'.1 (42, 0) (l - 97) = e l) : ∃ ti, Tq m R e ti h' := by
  obtain ⟨ti, -, a, -, b⟩ := c.sx k.sx
  exact ⟨ti, by rw [k.1]; exact hs, a, b, q⟩
set_option maxRecDepth 4000 in
theorem cx_barrier {E : En} (hok : EOK E) {h : Hp} {m : St} (hc : Cp m h) (hw : Wf m) (hx : Wx m) {R : Rm} (hCR : CR m h R) {t f : Nat} (ht : t < nT m) (hf : f < nF m) : Call E m_X11_barrier 5 0 0 [vR TH, vR (3, t), vR (4, f)] h (fun r h' => r = some (vI (nI (ntF m R t f))) ∧ Sx h h') := by
  have hs := hc.s
  have hKb := hw.k.2
  have hTb := hw.t.2
  have hFb := hw.f.2
  have hRb := hw.r.2
  have hGb := hw.g.2
  have hAb := hw.a.2
  have hTlb := hw.tl.2
  have hNwb := hw.w.2
  have hkd := (hw.kd ht).2
  refine Call.enter hok (by decide) (Nat.le_of_ble_eq_true rfl) ?_
  show G E m_X11_barrier 5 0 0 _ h 0 [some (vR TH), some (vR (3, t)), some (vR (4, f))] [] h 0 0
  refine g_aload_n (pc' := 1) dX11_barrier_0 rfl rfl ?_
  refine g_getIv (v := m 118 (t)) (pc' := 4) (k := 7) dX11_barrier_1 rfl rfl ck_9 (by decide) fl_X11_264 rfl (hc.t7 (t := t) (by omega)) ?_
  refine g_if_eq (tgt := 9) (pc' := 7) dX11_barrier_4 rfl (by decide) (fun c4 => ?_) (fun c4 => ?_)
  ·
    refine g_aload_n (pc' := 10) dX11_barrier_9 rfl rfl ?_
    refine g_getIv (v := m 124 (t)) (pc' := 13) (k := 14) dX11_barrier_10 rfl rfl ck_9 (by decide) fl_X11_260 rfl (hc.t14 (t := t) (by omega)) ?_
    refine g_if_eq (tgt := 18) (pc' := 16) dX11_barrier_13 rfl (by decide) (fun c13 => ?_) (fun c13 => ?_)
    ·
      refine g_aload_n (pc' := 19) dX11_barrier_18 rfl rfl ?_
      refine g_aload_n (pc' := 20) dX11_barrier_19 rfl rfl ?_
      refine g_invV (pc' := 23) (cx_isRecalled hok hc hw (t := t) (by omega)) dX11_barrier_20 rfl rfl ck_12 rfl ml_X11_280 im_X11_isRecalled sl_X11_isRecalled in_X11 co_X11_isRecalled pd_X11_isRecalled rfl (by omega) (by decide) ⟨by decide, by decide⟩ (Nat.le_of_ble_eq_true rfl) ?_
      rintro _ _ ⟨rfl, rfl⟩ -
      refine g_ifB_eq (tgt := 28) (pc' := 26) dX11_barrier_23 rfl (by decide) (fun c23 => ?_) (fun c23 => ?_)
      ·
        refine g_aload_n (pc' := 29) dX11_barrier_28 rfl rfl ?_
        refine g_invV (pc' := 32) (cx_isWorn hok hc hw (t := t) (by omega)) dX11_barrier_29 rfl rfl ck_9 rfl ml_X11_483 im_X8_isWorn sl_X8_isWorn in_X8 co_X8_isWorn pd_X8_isWorn rfl (by omega) (by decide) ⟨by decide, by decide⟩ (Nat.le_of_ble_eq_true rfl) ?_
        rintro _ _ ⟨rfl, rfl⟩ -
        refine g_ifB_eq (tgt := 37) (pc' := 35) dX11_barrier_32 rfl (by decide) (fun c32 => ?_) (fun c32 => ?_)
        ·
          refine g_aload_n (pc' := 38) dX11_barrier_37 rfl rfl ?_
          refine g_aload_n (pc' := 39) dX11_barrier_38 rfl rfl ?_
          refine g_aload_n (pc' := 40) dX11_barrier_39 rfl rfl ?_
          refine g_getIv (v := m 1 2) (pc' := 43) (k := 0) dX11_barrier_40 rfl rfl ck_12 (by decide) fl_X11_95 rfl (hc.c1.1) ?_
          refine g_invV (pc' := 46) (cx_termsBar hok hc hw (t := t) (f := f) (by omega) (by omega) hx) dX11_barrier_43 rfl rfl ck_9 rfl ml_X11_487 im_X8_termsBar sl_X8_termsBar in_X8 co_X8_termsBar pd_X8_termsBar rfl (by omega) (by decide) ⟨by decide, by decide⟩ (Nat.le_of_ble_eq_true rfl) ?_
          rintro _ _ ⟨rfl, rfl⟩ -
          refine g_ifB_eq (tgt := 51) (pc' := 49) dX11_barrier_46 rfl (by decide) (fun c46 => ?_) (fun c46 => ?_)
          ·
            refine g_aload_n (pc' := 52) dX11_barrier_51 rfl rfl ?_
            refine g_aload_n (pc' := 53) dX11_barrier_52 rfl rfl ?_
            refine g_getR (pc' := 56) (k := 1) (r := some (2, kd m t)) dX11_barrier_53 rfl rfl ck_9 (by decide) fl_X11_203 rfl ((hc.c6.2.1 _ (by omega)).1) ?_
            refine g_aload_n (pc' := 57) dX11_barrier_56 rfl rfl ?_
            refine g_aload_n (pc' := 58) dX11_barrier_57 rfl rfl ?_
            refine g_iconstN (n := 0) (pc' := 59) dX11_barrier_58 rfl ?_
            refine g_invV (pc' := 62) (cx_writeLettersT hok hc hw hx (k := kd m t) (f := f) (by omega) (by omega) (t := t) (by omega) _) dX11_barrier_59 rfl rfl ck_12 rfl ml_X11_207 im_X11_writeLetters sl_X11_writeLetters in_X11 co_X11_writeLetters pd_X11_writeLetters rfl (by omega) (by decide) ⟨by decide, by decide⟩ (Nat.le_of_ble_eq_true rfl) ?_
            rintro _ h1 ⟨rfl, w1, l1⟩ -
            obtain ⟨ti, hq1⟩ := Tq_of hs hCR w1 l1
            have hs := hq1.1
            refine g_aload_n (pc' := 63) dX11_barrier_62 rfl rfl ?_
            refine g_getS (pc' := 66) (k := 14) (b := (7, 0)) dX11_barrier_63 rfl rfl ck_12 (by decide) fl_X11_56 rfl hs rfl ?_
            refine g_bipushN (n := 97) (pc' := 68) dX11_barrier_66 rfl (by decide) ?_
            refine g_invV (pc' := 71) (cx_allHold hok hw hq1 _) dX11_barrier_68 rfl rfl ck_6 rfl ml_X11_491 im_X5_allHold sl_X5_allHold in_X5 co_X5_allHold pd_X5_allHold rfl (by omega) (by decide) ⟨by decide, by decide⟩ (Nat.le_of_ble_eq_true rfl) ?_
            rintro _ h2 ⟨rfl, w2⟩ -
            have hq2 := hq1.rk w2
            have hs := hq2.1
            refine g_ifB_ne (tgt := 77) (pc' := 74) dX11_barrier_71 rfl (by decide) (fun c71 => ?_) (fun c71 => ?_)
            ·
              refine g_aload_n (pc' := 78) dX11_barrier_77 rfl rfl ?_
              refine g_getS (pc' := 81) (k := 14) (b := (7, 0)) dX11_barrier_78 rfl rfl ck_12 (by decide) fl_X11_56 rfl hs rfl ?_
              refine g_bipushN (n := 117) (pc' := 83) dX11_barrier_81 rfl (by decide) ?_
              refine g_invV (pc' := 86) (cx_someHolds hok hw hq2 _) dX11_barrier_83 rfl rfl ck_6 rfl ml_X11_495 im_X5_someHolds sl_X5_someHolds in_X5 co_X5_someHolds pd_X5_someHolds rfl (by omega) (by decide) ⟨by decide, by decide⟩ (Nat.le_of_ble_eq_true rfl) ?_
              rintro _ h3 ⟨rfl, w3⟩ -
              refine g_ifB_eq (tgt := 94) (pc' := 89) dX11_barrier_86 rfl (by decide) (fun c86 => ?_) (fun c86 => ?_)
              ·
                refine g_iconstN (n := 0) (pc' := 95) dX11_barrier_94 rfl ?_
                refine g_iret dX11_barrier_95 rfl (by decide) (by decide) ?_
                have e : ntF m R t f = 0 := (cif_f (fun z => z c4)).trans ((cif_f (fun z => z c13)).trans ((cif_f c23).trans ((cif_f c32).trans ((cif_f c46).trans ((cif_f (fun z => z c71)).trans (cif_f c86))))))
                exact ⟨congrArg (fun z : Nat => some (vI (nI z))) e.symm, (w1.sx.tr w2.sx).tr w3.sx⟩
              ·
                refine g_bipushN (n := 7) (pc' := 91) dX11_barrier_89 rfl (by decide) ?_
                refine g_goto (tgt := 95) dX11_barrier_91 (by decide) ?_
                refine g_iret dX11_barrier_95 rfl (by decide) (by decide) ?_
                have e : ntF m R t f = 7 := (cif_f (fun z => z c4)).trans ((cif_f (fun z => z c13)).trans ((cif_f c23).trans ((cif_f c32).trans ((cif_f c46).trans ((cif_f (fun z => z c71)).trans (cif_t c86))))))
                exact ⟨congrArg (fun z : Nat => some (vI (nI z))) e.symm, (w1.sx.tr w2.sx).tr w3.sx⟩
            ·
              refine g_bipushN (n := 6) (pc' := 76) dX11_barrier_74 rfl (by decide) ?_
              refine g_iret dX11_barrier_76 rfl (by decide) (by decide) ?_
              have e : ntF m R t f = 6 := (cif_f (fun z => z c4)).trans ((cif_f (fun z => z c13)).trans ((cif_f c23).trans ((cif_f c32).trans ((cif_f c46).trans (cif_t c71)))))
              exact ⟨congrArg (fun z : Nat => some (vI (nI z))) e.symm, w1.sx.tr w2.sx⟩
          ·
            refine g_iconstN (n := 5) (pc' := 50) dX11_barrier_49 rfl ?_
            refine g_iret dX11_barrier_50 rfl (by decide) (by decide) ?_
            have e : ntF m R t f = 5 := (cif_f (fun z => z c4)).trans ((cif_f (fun z => z c13)).trans ((cif_f c23).trans ((cif_f c32).trans (cif_t c46))))
            exact ⟨congrArg (fun z : Nat => some (vI (nI z))) e.symm, Sx.rf h⟩
        ·
          refine g_iconstN (n := 4) (pc' := 36) dX11_barrier_35 rfl ?_
          refine g_iret dX11_barrier_36 rfl (by decide) (by decide) ?_
          have e : ntF m R t f = 4 := (cif_f (fun z => z c4)).trans ((cif_f (fun z => z c13)).trans ((cif_f c23).trans (cif_t c32)))
          exact ⟨congrArg (fun z : Nat => some (vI (nI z))) e.symm, Sx.rf h⟩
      ·
        refine g_iconstN (n := 3) (pc' := 27) dX11_barrier_26 rfl ?_
        refine g_iret dX11_barrier_27 rfl (by decide) (by decide) ?_
        have e : ntF m R t f = 3 := (cif_f (fun z => z c4)).trans ((cif_f (fun z => z c13)).trans (cif_t c23))
        exact ⟨congrArg (fun z : Nat => some (vI (nI z))) e.symm, Sx.rf h⟩
    ·
      refine g_iconstN (n := 2) (pc' := 17) dX11_barrier_16 rfl ?_
      refine g_iret dX11_barrier_17 rfl (by decide) (by decide) ?_
      have e : ntF m R t f = 2 := (cif_f (fun z => z c4)).trans (cif_t c13)
      exact ⟨congrArg (fun z : Nat => some (vI (nI z))) e.symm, Sx.rf h⟩
  ·
    refine g_iconstN (n := 1) (pc' := 8) dX11_barrier_7 rfl ?_
    refine g_iret dX11_barrier_8 rfl (by decide) (by decide) ?_
    have e : ntF m R t f = 1 := cif_t c4
    exact ⟨congrArg (fun z : Nat => some (vI (nI z))) e.symm, Sx.rf h⟩
