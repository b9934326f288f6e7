theorem smN_one {F G : Nat → Nat} {f b : Nat} : ∀ {N : Nat}, (∀ g, g < N → G g = F g + if g = f then b else 0) → smN G N = smN F N + if f < N then b else 0
  | 0, _ => by rw [if_neg (Nat.not_lt_zero f)]; rfl
  | N + 1, q => by
    have ih := smN_one (F := F) (G := G) (f := f) (b := b) (N := N) (fun g hg => q g (by omega))
    unfold smN
    rw [ih, q N (Nat.lt_succ_self N)]
    by_cases e : N = f
    · subst e
      rw [if_neg (Nat.lt_irrefl N), if_pos rfl, if_pos (Nat.lt_succ_self N)]
      omega
    · rw [if_neg e]
      by_cases z : f < N
      · rw [if_pos z, if_pos (by omega)]
        omega
      · rw [if_neg z, if_neg (by omega)]
        omega
theorem C11_back {m : St} {h h' : Hp} {t f : Nat} {a c l d u : Int32} (k : C11 m h) (hA : nA m ≤ 512) (hF : nF m ≤ 10) (hf : f < nF m) (s : Stl t f d u c (lastF m f (nA m)) l h h') : C11 (bkS m t f a c (bi (0 < l)) d) h' := by
  have a76 : ∀ i, bkS m t f a c (bi (0 < l)) d 176 i = if i = nA m then nI f else m 176 i := fun i => by simp [bkS, cmsS, wrtS, stU_at]
  have a77 : ∀ i, bkS m t f a c (bi (0 < l)) d 177 i = if i = nA m then c else m 177 i := fun i => by simp [bkS, cmsS, wrtS, stU_at]
  have a78 : ∀ i, bkS m t f a c (bi (0 < l)) d 178 i = if i = nA m then 1 else m 178 i := fun i => by
    simp [bkS, cmsS, wrtS, stU_at]
    by_cases z : i = nA m
    · rw [if_pos z, if_pos z]
    · rw [if_neg z, if_neg z, if_neg z]
  have a79 : ∀ i, bkS m t f a c (bi (0 < l)) d 179 i = if i = nA m then bi (0 < l) else m 179 i := fun i => by simp [bkS, cmsS, wrtS, stU_at]
  have eN : nA (bkS m t f a c (bi (0 < l)) d) = nA m + 1 := nI_clamp (by omega)
  have eF : nF (bkS m t f a c (bi (0 < l)) d) = nF m := rfl
  have q : ∀ i, i < nA m → bkS m t f a c (bi (0 < l)) d 176 i = m 176 i ∧ bkS m t f a c (bi (0 < l)) d 177 i = m 177 i ∧ bkS m t f a c (bi (0 < l)) d 178 i = m 178 i ∧ bkS m t f a c (bi (0 < l)) d 179 i = m 179 i := fun i hi => by
    rw [a76, a77, a78, a79, if_neg (by omega), if_neg (by omega), if_neg (by omega), if_neg (by omega)]
    exact ⟨rfl, rfl, rfl, rfl⟩
  have q3 : ∀ i, i < nA m → bkS m t f a c (bi (0 < l)) d 176 i = m 176 i ∧ bkS m t f a c (bi (0 < l)) d 177 i = m 177 i ∧ bkS m t f a c (bi (0 < l)) d 178 i = m 178 i := fun i hi => ⟨(q i hi).1, (q i hi).2.1, (q i hi).2.2.1⟩
  have n78 : ¬ bkS m t f a c (bi (0 < l)) d 178 (nA m) = 0 := by rw [a78, if_pos rfl]; decide
  have n76 : bkS m t f a c (bi (0 < l)) d 176 (nA m) = nI f := by rw [a76, if_pos rfl]
  have n77 : bkS m t f a c (bi (0 < l)) d 177 (nA m) = c := by rw [a77, if_pos rfl]
  have n79 : ¬ bkS m t f a c (bi (0 < l)) d 179 (nA m) = 0 ↔ 0 < l := by
    rw [a79, if_pos rfl, bi_0]
    exact Classical.not_not
  refine ⟨fun g hg => ?_, fun w hw => ?_⟩
  · rw [eF] at hg
    rw [eN, s.2.2.2.1 g 6]
    by_cases e : g = f
    · subst e
      rw [if_pos ⟨rfl, rfl⟩, show lastF (bkS m t g a c (bi (0 < l)) d) g (nA m + 1) = _ from cif_t ⟨n78, n76⟩, n77]
    · rw [if_neg (fun z => e z.1), if_neg (fun z => e z.1), k.1 g hg, show lastF (bkS m t f a c (bi (0 < l)) d) g (nA m + 1) = _ from cif_f (fun z => e (by rw [n76] at z; exact ((nI_eq (by omega) (by omega)).mp z.2).symm))]
      exact (lastF_ext _ q3).symm
  · rw [s.2.2.2.2 w hw, k.2 w hw, nI_add]
    congr 1
    unfold fgv
    rw [eN, eF]
    have e := smN_one (F := fun g => cnt (fgP m w g) (nA m)) (G := fun g => cnt (fgP (bkS m t f a c (bi (0 < l)) d) w g) (nA m + 1)) (f := f) (b := ntB (lastF m f (nA m)) l w) (N := nF m) (fun g hg => by
      have e1 : cnt (fgP (bkS m t f a c (bi (0 < l)) d) w g) (nA m) = cnt (fgP m w g) (nA m) := cnt_congr (fun i hi => fgP_ext q hi)
      have iff : fgP (bkS m t f a c (bi (0 < l)) d) w g (nA m) ↔ g = f ∧ lastF m f (nA m) = nI (1 + w / 2) ∧ (w % 2 = 0 ∨ 0 < l) := by
        unfold fgP
        rw [n79, lastF_ext _ q3, n76]
        constructor
        · rintro ⟨⟨-, z⟩, y⟩
          have e : f = g := (nI_eq (by omega) (by omega)).mp z
          subst e
          exact ⟨rfl, y⟩
        · rintro ⟨rfl, y⟩
          exact ⟨⟨n78, rfl⟩, y⟩
      by_cases z : fgP (bkS m t f a c (bi (0 < l)) d) w g (nA m)
      · have y := iff.mp z
        rw [cnt_t z, e1, if_pos y.1, show ntB (lastF m f (nA m)) l w = 1 from cif_t y.2]
      · rw [cnt_f z, e1]
        by_cases y : g = f
        · rw [if_pos y, show ntB (lastF m f (nA m)) l w = 0 from cif_f (fun x => z (iff.mpr ⟨y, x⟩))]
        · rw [if_neg y])
    rw [if_pos hf] at e
    exact e.symm
theorem C6_back {m : St} {h h' : Hp} {t f : Nat} {a c l d u lf l2 : Int32} (k : C6 m h) (e11 : h.1 (3, t) 11 = m 1 2) (s : Stl t f d u c lf l2 h h') : C6 (bkS m t f a c l d) (lvH h' t (nI 0)) := by
  have e3 : ∀ i j, (lvH h' t (nI 0)).1 (3, i) j = if i = t ∧ j = 9 then -1 else if i = t ∧ j = 8 then -1 else if i = t ∧ j = 7 then nI 0 else if i = t ∧ j = 14 then d else h.1 (3, i) j := fun i j => by
    unfold lvH
    rw [wI_at, wI_at, wI_at, s.2.2.1]
    simp
  have e26 : ∀ i, (lvH h' t (nI 0)).1 (26, i) = h.1 (26, i) := fun i => s.2.1 (26, i) (show (26 : Nat) ≠ 3 by decide) (show (26 : Nat) ≠ 4 by decide) (show (26 : Nat) ≠ 7 by decide) (show (26 : Nat) ≠ 23 by decide) (show (26 : Nat) ≠ 42 by decide) (show (26 : Nat) ≠ 43 by decide)
  have e13 : ∀ i, (lvH h' t (nI 0)).1 (13, i) = h.1 (13, i) := fun i => s.2.1 (13, i) (show (13 : Nat) ≠ 3 by decide) (show (13 : Nat) ≠ 4 by decide) (show (13 : Nat) ≠ 7 by decide) (show (13 : Nat) ≠ 23 by decide) (show (13 : Nat) ≠ 42 by decide) (show (13 : Nat) ≠ 43 by decide)
  have e2 : (lvH h' t (nI 0)).2 = h.2 := s.1
  have b18 : ∀ i, bkS m t f a c l d 118 i = if i = t then nI 0 else m 118 i := fun i => by simp [bkS, cmsS, wrtS, stU_at]
  have b19 : ∀ i, bkS m t f a c l d 119 i = if i = t then -1 else m 119 i := fun i => by simp [bkS, cmsS, wrtS, stU_at]
  have b20 : ∀ i, bkS m t f a c l d 120 i = if i = t then -1 else m 120 i := fun i => by simp [bkS, cmsS, wrtS, stU_at]
  have b23 : ∀ i, bkS m t f a c l d 123 i = if i = t then m 1 2 else m 123 i := fun i => by simp [bkS, cmsS, wrtS, stU_at]
  have b24 : ∀ i, bkS m t f a c l d 124 i = if i = t then d else m 124 i := fun i => by simp [bkS, cmsS, wrtS, stU_at]
  refine ⟨?_, fun i hi => ?_, fun i hi => ?_⟩
  · have q := k.1
    unfold Ls at *
    rw [e13, e2]
    exact q
  · have q := k.2.1 i hi
    refine ⟨by rw [e2]; exact q.1, ?_, fun j hj => by rw [e26]; exact q.2.2 j hj⟩
    have z := q.2.1
    simp only [e3, b18, b19, b20, b23, b24]
    by_cases e : i = t
    · subst e
      simp
      exact ⟨z.1, z.2.1, z.2.2.2.2.2.1, fun _ => e11, z.2.2.2.2.2.2.2.1, z.2.2.2.2.2.2.2.2.1⟩
    · simp [e]
      exact z
  · rw [e2]
    exact k.2.2 i hi
theorem C8_back {m : St} {h h' : Hp} {t f : Nat} {a c l d lf l2 : Int32} (k : C8 m h) (s : Stl t f d (m 129 f + a) c lf l2 h h') : C8 (bkS m t f a c l d) h' := by
  have e29 : ∀ i, h'.1 (29, i) = h.1 (29, i) := fun i => s.2.1 (29, i) (show (29 : Nat) ≠ 3 by decide) (show (29 : Nat) ≠ 4 by decide) (show (29 : Nat) ≠ 7 by decide) (show (29 : Nat) ≠ 23 by decide) (show (29 : Nat) ≠ 42 by decide) (show (29 : Nat) ≠ 43 by decide)
  have e13 : ∀ i, h'.1 (13, i) = h.1 (13, i) := fun i => s.2.1 (13, i) (show (13 : Nat) ≠ 3 by decide) (show (13 : Nat) ≠ 4 by decide) (show (13 : Nat) ≠ 7 by decide) (show (13 : Nat) ≠ 23 by decide) (show (13 : Nat) ≠ 42 by decide) (show (13 : Nat) ≠ 43 by decide)
  have b29 : ∀ i, bkS m t f a c l d 129 i = if i = f then m 129 f + a else m 129 i := fun i => by simp [bkS, cmsS, wrtS, stU_at]
  refine ⟨?_, fun i hi => ?_, fun i hi => ?_⟩
  · have q := k.1
    unfold Ls at *
    rw [e13, s.1]
    exact q
  · have q := k.2.1 i hi
    refine ⟨?_, fun j hj => by rw [e29]; exact q.2 j hj⟩
    have z := q.1
    simp only [s.2.2.2.1, b29]
    by_cases e : i = f
    · subst e
      simp
      exact ⟨z.1, z.2.1, z.2.2.1, z.2.2.2.1⟩
    · simp [e]
      exact z
  · rw [s.1]
    exact k.2.2 i hi
set_option maxRecDepth 4000 in
theorem cx_back {E : En} (hok : EOK E) {h : Hp} {m : St} (hc : Cp m h) (hw : Wf m) (hx : Wx m) {R : Rm} (hCR : CR m h R) (t0 : Int32) : Call E m_X11_back 8 0 0 [vR TH, vI t0] h (fun r h' => r = some (vI (sBack m R t0).1) ∧ Cp (sBack m R t0).2 h' ∧ mo h' = mo h) := by
  have hs := hc.s
  have hKb := hw.k.2
  have hTb := hw.t.2
  have hFb := hw.f.2
  have hRb := hw.r.2
  have hGb := hw.g.2
  have hAb := hw.a.2
  have hTlb := hw.tl.2
  have hNwb := hw.w.2
  refine Call.enter hok (by decide) (Nat.le_of_ble_eq_true rfl) ?_
  show G E m_X11_back 8 0 0 _ h 0 [some (vR TH), some (vI t0), none, none, none, none, none] [] h 0 0
  refine g_aload_n (pc' := 1) dX11_back_0 rfl rfl ?_
  refine g_iload_n (pc' := 2) dX11_back_1 rfl rfl ?_
  rcases Classical.em (∃ j : Nat, j < nT m ∧ t0 = nI j) with w2 | w2
  ·
    have k2 := w2
    obtain ⟨t, ht, rfl⟩ := k2
    refine g_invV (pc' := 5) (cx_toyAt hok hc hw ht) dX11_back_2 rfl rfl ck_12 rfl ml_X11_151 im_X11_toyAt sl_X11_toyAt in_X11 co_X11_toyAt pd_X11_toyAt rfl (by omega) (by decide) ⟨by decide, by decide⟩ (Nat.le_of_ble_eq_true rfl) ?_
    rintro _ _ ⟨rfl, rfl⟩ -
    refine g_astore_n (pc' := 6) dX11_back_5 rfl (by decide) rfl ?_
    try simp only [List.set]
    refine g_aload_n (pc' := 7) dX11_back_6 rfl rfl ?_
    refine g_aload_n (pc' := 8) dX11_back_7 rfl rfl ?_
    rcases Classical.em (m 118 t = 1) with w8 | w8
    ·
      have hhl := Wx.hl hx ht w8 hFb
      have hf := hhl.2
      refine g_invV (pc' := 11) (cx_holderOf hok hc hw hx ht w8) dX11_back_8 rfl rfl ck_12 rfl ml_X11_228 im_X11_holderOf sl_X11_holderOf in_X11 co_X11_holderOf pd_X11_holderOf rfl (by omega) (by decide) ⟨by decide, by decide⟩ (Nat.le_of_ble_eq_true rfl) ?_
      rintro _ _ ⟨rfl, rfl⟩ -
      refine g_astore_n (pc' := 12) dX11_back_11 rfl (by decide) rfl ?_
      try simp only [List.set]
      refine g_aload_n (pc' := 13) dX11_back_12 rfl rfl ?_
      refine g_ifnull (pc' := 16) dX11_back_13 rfl ?_
      refine g_aload_n (pc' := 17) dX11_back_16 rfl rfl ?_
      refine g_ifnull (pc' := 20) dX11_back_17 rfl ?_
      refine g_aload_n (pc' := 21) dX11_back_20 rfl rfl ?_
      refine g_getIv (v := nI (nTl m)) (pc' := 24) (k := 4) dX11_back_21 rfl rfl ck_12 (by decide) fl_X11_165 rfl (hc.c1.2.2.2.2.trans hw.tl.1) ?_
      refine g_bipushN (n := 6) (pc' := 26) dX11_back_24 rfl (by decide) ?_
      refine g_icmp_geN (tgt := 31) (pc' := 29) dX11_back_26 rfl (by decide) (by omega) (by omega) (fun c26 => ?_) (fun c26 => ?_)
      ·
        refine g_aload_n (pc' := 32) dX11_back_31 rfl rfl ?_
        refine g_iconstN (n := 0) (pc' := 33) dX11_back_32 rfl ?_
        refine g_putI (pc' := 36) (k := 4) dX11_back_33 rfl rfl ck_12 (by decide) fl_X11_165 rfl rfl rfl rfl ?_
        have hc1 : Cp (stU m 1 1 (nI 0)) (wI h TH 4 (nI 0)) := ⟨hc.s, hc.e, ⟨hc.c1.1, hc.c1.2.1, hc.c1.2.2.1, hc.c1.2.2.2.1, rfl⟩, hc.c2, hc.c3, hc.c4, hc.c5, hc.c6, hc.c7, hc.c8, hc.c9, hc.c10, C11.same hc.c11 rfl rfl rfl rfl rfl rfl (fun _ => rfl) rfl, hc.c12, hc.c13⟩
        have hw1 : Wf (stU m 1 1 (nI 0)) := ⟨hw.w, hw.c, ⟨rfl, Nat.zero_le 220⟩, hw.k, hw.t, hw.f, hw.r, hw.g, hw.a, fun u hu => hw.kd (t := u) hu⟩
        have hx1 : Wx (stU m 1 1 (nI 0)) := hx
        refine g_aload_n (pc' := 37) dX11_back_36 rfl rfl ?_
        refine g_aload_n (pc' := 38) dX11_back_37 rfl rfl ?_
        refine g_getS (pc' := 41) (k := 6) (b := (20, 0)) dX11_back_38 rfl rfl ck_12 (by decide) fl_X11_9 rfl hs rfl ?_
        refine g_invV (pc' := 44) (cx_couldHave hok hc1 hw1 (t := t) ht) dX11_back_41 rfl rfl ck_9 rfl ml_X11_232 im_X8_couldHave sl_X8_couldHave in_X8 co_X8_couldHave pd_X8_couldHave rfl (by omega) (by decide) ⟨by decide, by decide⟩ (Nat.le_of_ble_eq_true rfl) ?_
        rintro _ _ ⟨rfl, rfl⟩ -
        refine g_ifB_ne (tgt := 50) (pc' := 47) dX11_back_44 rfl (by decide) (fun c44 => ?_) (fun c44 => ?_)
        ·
          refine g_iconstN (n := 0) (pc' := 51) dX11_back_50 rfl ?_
          refine g_aload_n (pc' := 52) dX11_back_51 rfl rfl ?_
          refine g_getIv (v := m 1 2) (pc' := 55) (k := 0) dX11_back_52 rfl rfl ck_12 (by decide) fl_X11_95 rfl (hc.c1.1) ?_
          refine g_aload_n (pc' := 56) dX11_back_55 rfl rfl ?_
          refine g_getIv (v := m 120 (t)) (pc' := 59) (k := 9) dX11_back_56 rfl rfl ck_9 (by decide) fl_X11_225 rfl (hc.t9 (t := t) (by omega)) ?_
          refine g_isub (pc' := 60) dX11_back_59 rfl ?_
          refine g_max (pc' := 63) dX11_back_60 rfl ml_X11_236 mx_s in_J9 mx_c (by omega) (by decide) (by decide) (Nat.le_of_ble_eq_true rfl) ?_
          rw [late_eq hx hw ht]
          refine g_istore (pc' := 65) dX11_back_63 rfl (by decide) rfl ?_
          try simp only [List.set]
          refine g_aload_n (pc' := 66) dX11_back_65 rfl rfl ?_
          refine g_aload_n (pc' := 67) dX11_back_66 rfl rfl ?_
          refine g_getS (pc' := 70) (k := 6) (b := (20, 0)) dX11_back_67 rfl rfl ck_12 (by decide) fl_X11_9 rfl hs rfl ?_
          refine g_aload_n (pc' := 71) dX11_back_70 rfl rfl ?_
          refine g_getIv (v := m 1 2) (pc' := 74) (k := 0) dX11_back_71 rfl rfl ck_12 (by decide) fl_X11_95 rfl (hc.c1.1) ?_
          refine g_invV (pc' := 77) (cx_comeBack hok hc1 hw1 (t := t) ht) dX11_back_74 rfl rfl ck_9 rfl ml_X11_242 im_X8_comeBack sl_X8_comeBack in_X8 co_X8_comeBack pd_X8_comeBack rfl (by omega) (by decide) ⟨by decide, by decide⟩ (Nat.le_of_ble_eq_true rfl) ?_
          rintro _ h2 ⟨rfl, eh2⟩ -
          have hc3 : Cp (bk3 m t) h2 := by rw [← eh2]; exact Cp.come hc1 (by rw [show stU m 1 1 (nI 0) 118 t = m 118 t from rfl, w8]; decide)
          have hw3 := Wf_bk3 hw t
          have hx3 : Wx (bk3 m t) := Wx_cm (m := stU m 1 1 (nI 0)) hx1 hw1 ht c44
          have hCR3 : CR (bk3 m t) h2 R := by
            have f : ∀ s, s ≠ 3 → s ≠ 26 → s ≠ 0 → ∀ i, h2.1 (s, i) = h.1 (s, i) := fun s a b c i => by
              rw [← eh2]
              unfold cbH
              rw [wI_off _ _ _ _ (s, i) (ad_ne a), wI_off _ _ _ _ (s, i) (ad_ne a), wN_off _ _ _ _ (ad_ne b), wI_off _ _ _ _ (s, i) (ad_ne c)]
            have e2 : h2.2 = h.2 := by rw [← eh2]; exact wN_2 (wI h TH 4 (nI 0)) (26, t) 0 (fun s => m 100 s &&& nI 255) 6
            exact hCR.same e2 (fun i => by rw [f 6 (by decide) (by decide) (by decide)]) (f 35 (by decide) (by decide) (by decide)) (f 36 (by decide) (by decide) (by decide)) (f 37 (by decide) (by decide) (by decide)) (f 38 (by decide) (by decide) (by decide)) (f 39 (by decide) (by decide) (by decide)) (f 40 (by decide) (by decide) (by decide)) rfl rfl
          have e11 : h2.1 (3, t) 11 = m 1 2 := by rw [← eh2]; unfold cbH; rw [wI_same]; rfl
          have hs := hc3.s
          refine g_istore (pc' := 79) dX11_back_77 rfl (by decide) rfl ?_
          try simp only [List.set]
          refine g_aload_n (pc' := 80) dX11_back_79 rfl rfl ?_
          refine g_aload_n (pc' := 81) dX11_back_80 rfl rfl ?_
          refine g_aload_n (pc' := 82) dX11_back_81 rfl rfl ?_
          refine g_iload (pc' := 84) dX11_back_82 rfl rfl ?_
          refine g_iload (pc' := 86) dX11_back_84 rfl rfl ?_
          refine g_invV (pc' := 89) (cx_settle hok hc3 hw3 hx3 hCR3 (t := t) (f := hl m t) ht hf _ _) dX11_back_86 rfl rfl ck_12 rfl ml_X11_246 im_X11_settle sl_X11_settle in_X11 co_X11_settle pd_X11_settle rfl (by omega) (by decide) ⟨by decide, by decide⟩ (Nat.le_of_ble_eq_true rfl) ?_
          rintro _ h3 ⟨rfl, st⟩ -
          have hs : Shp h3.2 := by rw [st.1]; exact hc3.s
          have eT : h3.1 (0, 0) = h2.1 (0, 0) := st.2.1 (0, 0) (show (0 : Nat) ≠ 3 by decide) (show (0 : Nat) ≠ 4 by decide) (show (0 : Nat) ≠ 7 by decide) (show (0 : Nat) ≠ 23 by decide) (show (0 : Nat) ≠ 42 by decide) (show (0 : Nat) ≠ 43 by decide)
          have e8 : ∀ i, h3.1 (8, i) = h2.1 (8, i) := fun i => st.2.1 (8, i) (show (8 : Nat) ≠ 3 by decide) (show (8 : Nat) ≠ 4 by decide) (show (8 : Nat) ≠ 7 by decide) (show (8 : Nat) ≠ 23 by decide) (show (8 : Nat) ≠ 42 by decide) (show (8 : Nat) ≠ 43 by decide)
          refine g_istore (pc' := 91) dX11_back_89 rfl (by decide) rfl ?_
          try simp only [List.set]
          refine g_aload_n (pc' := 92) dX11_back_91 rfl rfl ?_
          refine g_iconstN (n := 0) (pc' := 93) dX11_back_92 rfl ?_
          refine g_invV (pc' := 96) (cx_leaveFamily hok _) dX11_back_93 rfl rfl ck_9 rfl ml_X11_250 im_X8_leaveFamily sl_X8_leaveFamily in_X8 co_X8_leaveFamily pd_X8_leaveFamily rfl (by omega) (by decide) ⟨by decide, by decide⟩ (Nat.le_of_ble_eq_true rfl) ?_
          rintro _ _ ⟨rfl, rfl⟩ -
          refine g_aload_n (pc' := 97) dX11_back_96 rfl rfl ?_
          refine g_getS (pc' := 100) (k := 15) (b := (8, 0)) dX11_back_97 rfl rfl ck_12 (by decide) fl_X11_63 rfl hs rfl ?_
          refine g_aload_n (pc' := 101) dX11_back_100 rfl rfl ?_
          refine g_getIv (v := nI (t)) (pc' := 104) (k := 0) dX11_back_101 rfl rfl ck_9 (by decide) fl_X11_138 rfl (by simp [lvH, wI_at, st.2.2.1]; exact hc3.t0 (t := t) ht) ?_
          refine g_aload_n (pc' := 105) dX11_back_104 rfl rfl ?_
          refine g_getIv (v := m 1 2) (pc' := 108) (k := 0) dX11_back_105 rfl rfl ck_12 (by decide) fl_X11_95 rfl ((congrFun eT 0).trans hc3.c1.1) ?_
          refine g_aload_n (pc' := 109) dX11_back_108 rfl rfl ?_
          refine g_getIv (v := m 1 2) (pc' := 112) (k := 0) dX11_back_109 rfl rfl ck_12 (by decide) fl_X11_95 rfl ((congrFun eT 0).trans hc3.c1.1) ?_
          refine g_aload_n (pc' := 113) dX11_back_112 rfl rfl ?_
          refine g_getIv (v := m 1 7) (pc' := 116) (k := 2) dX11_back_113 rfl rfl ck_12 (by decide) fl_X11_148 rfl ((congrFun eT 2).trans hc3.c1.2.2.1) ?_
          refine g_iadd (pc' := 117) dX11_back_116 rfl ?_
          refine g_iconstN (n := 0) (pc' := 118) dX11_back_117 rfl ?_
          refine g_invV (pc' := 121) (cx_write hok (by exact hs) (n := nA m) (by omega) (by exact (congrFun (e8 0) 4).trans (hc3.c10.1.trans hw.a.1)) _ _ _ _) dX11_back_118 rfl rfl ck_1 rfl ml_X11_222 im_X0_write sl_X0_write in_X0 co_X0_write pd_X0_write rfl (by omega) (by decide) ⟨by decide, by decide⟩ (Nat.le_of_ble_eq_true rfl) ?_
          rintro _ _ ⟨rfl, rfl⟩ -
          refine g_iload (pc' := 123) dX11_back_121 rfl rfl ?_
          refine g_iret dX11_back_123 rfl (by decide) (by decide) ?_
          have e : sBack m R (nI t) = bkT (bk3 m t) R t (bkM m t) := by unfold sBack; simp only [nI_clamp (show t < 2 ^ 31 by omega)]; exact (cif_t ⟨w2, w8, c26⟩).trans (cif_t c44)
          rw [e]
          have k6 : C6 (bkS (bk3 m t) t (hl m t) (bkA (bk3 m t) R t (hl m t) (bkL m t) (bkM m t)) (bkC (bk3 m t) R t (hl m t) (bkL m t)) (bi (0 < bkL m t)) (bi (smP (bk3 m t) R (envT (bk3 m t) t (hl m t) (bkL m t)) (nI 119)))) (lvH h3 t (nI 0)) := C6_back hc3.c6 e11 st
          have k8 : C8 (bkS (bk3 m t) t (hl m t) (bkA (bk3 m t) R t (hl m t) (bkL m t) (bkM m t)) (bkC (bk3 m t) R t (hl m t) (bkL m t)) (bi (0 < bkL m t)) (bi (smP (bk3 m t) R (envT (bk3 m t) t (hl m t) (bkL m t)) (nI 119)))) h3 := C8_back hc3.c8 st
          have k11 : C11 (bkS (bk3 m t) t (hl m t) (bkA (bk3 m t) R t (hl m t) (bkL m t) (bkM m t)) (bkC (bk3 m t) R t (hl m t) (bkL m t)) (bi (0 < bkL m t)) (bi (smP (bk3 m t) R (envT (bk3 m t) t (hl m t) (bkL m t)) (nI 119)))) h3 := C11_back hc3.c11 hAb hFb hf st
          have k10a : C10 (bk3 m t) h3 := hc3.c10.same e8 rfl rfl (fun i => st.2.1 (31, i) (show (31 : Nat) ≠ 3 by decide) (show (31 : Nat) ≠ 4 by decide) (show (31 : Nat) ≠ 7 by decide) (show (31 : Nat) ≠ 23 by decide) (show (31 : Nat) ≠ 42 by decide) (show (31 : Nat) ≠ 43 by decide)) (fun i => st.2.1 (32, i) (show (32 : Nat) ≠ 3 by decide) (show (32 : Nat) ≠ 4 by decide) (show (32 : Nat) ≠ 7 by decide) (show (32 : Nat) ≠ 23 by decide) (show (32 : Nat) ≠ 42 by decide) (show (32 : Nat) ≠ 43 by decide)) (fun i => st.2.1 (33, i) (show (33 : Nat) ≠ 3 by decide) (show (33 : Nat) ≠ 4 by decide) (show (33 : Nat) ≠ 7 by decide) (show (33 : Nat) ≠ 23 by decide) (show (33 : Nat) ≠ 42 by decide) (show (33 : Nat) ≠ 43 by decide)) (fun i => st.2.1 (34, i) (show (34 : Nat) ≠ 3 by decide) (show (34 : Nat) ≠ 4 by decide) (show (34 : Nat) ≠ 7 by decide) (show (34 : Nat) ≠ 23 by decide) (show (34 : Nat) ≠ 42 by decide) (show (34 : Nat) ≠ 43 by decide)) rfl rfl rfl rfl rfl
          have k10 := C10_wrt k10a (t := nI t) (w := nI 0) hAb
          refine ⟨rfl, ?_, ?_⟩
          · refine Cp.upd (m := (bk3 m t)) (h := h2) (m' := bkS (bk3 m t) t (hl m t) (bkA (bk3 m t) R t (hl m t) (bkL m t) (bkM m t)) (bkC (bk3 m t) R t (hl m t) (bkL m t)) (bi (0 < bkL m t)) (bi (smP (bk3 m t) R (envT (bk3 m t) t (hl m t) (bkL m t)) (nI 119)))) hc3 ?_ ?_ ?_ (C6.same k6 rfl (fun _ => rfl) (fun _ => rfl) (fun _ => rfl) rfl rfl rfl rfl rfl rfl rfl rfl rfl rfl rfl rfl) (C7.same hc3.c7 (fun u => ?_) (fun i => st.2.1 (27, i) (show (27 : Nat) ≠ 3 by decide) (show (27 : Nat) ≠ 4 by decide) (show (27 : Nat) ≠ 7 by decide) (show (27 : Nat) ≠ 23 by decide) (show (27 : Nat) ≠ 42 by decide) (show (27 : Nat) ≠ 43 by decide)) (fun i => st.2.1 (28, i) (show (28 : Nat) ≠ 3 by decide) (show (28 : Nat) ≠ 4 by decide) (show (28 : Nat) ≠ 7 by decide) (show (28 : Nat) ≠ 23 by decide) (show (28 : Nat) ≠ 42 by decide) (show (28 : Nat) ≠ 43 by decide)) rfl rfl rfl rfl rfl) (C8.same k8 rfl (fun _ _ _ => rfl) (fun _ => rfl) (fun _ => rfl) rfl rfl rfl rfl rfl rfl) (C10.same k10 (fun _ => rfl) rfl rfl (fun _ => rfl) (fun _ => rfl) (fun _ => rfl) (fun _ => rfl) rfl rfl rfl rfl rfl) (C11.same k11 rfl rfl rfl rfl rfl rfl (fun _ => rfl) rfl) ?_ (fun i => st.2.1 (21, i) (show (21 : Nat) ≠ 3 by decide) (show (21 : Nat) ≠ 4 by decide) (show (21 : Nat) ≠ 7 by decide) (show (21 : Nat) ≠ 23 by decide) (show (21 : Nat) ≠ 42 by decide) (show (21 : Nat) ≠ 43 by decide)) (fun i => st.2.1 (22, i) (show (22 : Nat) ≠ 3 by decide) (show (22 : Nat) ≠ 4 by decide) (show (22 : Nat) ≠ 7 by decide) (show (22 : Nat) ≠ 23 by decide) (show (22 : Nat) ≠ 42 by decide) (show (22 : Nat) ≠ 43 by decide)) (fun i => st.2.1 (13, i) (show (13 : Nat) ≠ 3 by decide) (show (13 : Nat) ≠ 4 by decide) (show (13 : Nat) ≠ 7 by decide) (show (13 : Nat) ≠ 23 by decide) (show (13 : Nat) ≠ 42 by decide) (show (13 : Nat) ≠ 43 by decide)) (fun i => st.2.1 (2, i) (show (2 : Nat) ≠ 3 by decide) (show (2 : Nat) ≠ 4 by decide) (show (2 : Nat) ≠ 7 by decide) (show (2 : Nat) ≠ 23 by decide) (show (2 : Nat) ≠ 42 by decide) (show (2 : Nat) ≠ 43 by decide)) (fun i => st.2.1 (24, i) (show (24 : Nat) ≠ 3 by decide) (show (24 : Nat) ≠ 4 by decide) (show (24 : Nat) ≠ 7 by decide) (show (24 : Nat) ≠ 23 by decide) (show (24 : Nat) ≠ 42 by decide) (show (24 : Nat) ≠ 43 by decide)) (fun i => st.2.1 (25, i) (show (25 : Nat) ≠ 3 by decide) (show (25 : Nat) ≠ 4 by decide) (show (25 : Nat) ≠ 7 by decide) (show (25 : Nat) ≠ 23 by decide) (show (25 : Nat) ≠ 42 by decide) (show (25 : Nat) ≠ 43 by decide)) (fun i => st.2.1 (5, i) (show (5 : Nat) ≠ 3 by decide) (show (5 : Nat) ≠ 4 by decide) (show (5 : Nat) ≠ 7 by decide) (show (5 : Nat) ≠ 23 by decide) (show (5 : Nat) ≠ 42 by decide) (show (5 : Nat) ≠ 43 by decide)) (fun i => st.2.1 (30, i) (show (30 : Nat) ≠ 3 by decide) (show (30 : Nat) ≠ 4 by decide) (show (30 : Nat) ≠ 7 by decide) (show (30 : Nat) ≠ 23 by decide) (show (30 : Nat) ≠ 42 by decide) (show (30 : Nat) ≠ 43 by decide)) (fun i => st.2.1 (6, i) (show (6 : Nat) ≠ 3 by decide) (show (6 : Nat) ≠ 4 by decide) (show (6 : Nat) ≠ 7 by decide) (show (6 : Nat) ≠ 23 by decide) (show (6 : Nat) ≠ 42 by decide) (show (6 : Nat) ≠ 43 by decide)) (fun i => st.2.1 (35, i) (show (35 : Nat) ≠ 3 by decide) (show (35 : Nat) ≠ 4 by decide) (show (35 : Nat) ≠ 7 by decide) (show (35 : Nat) ≠ 23 by decide) (show (35 : Nat) ≠ 42 by decide) (show (35 : Nat) ≠ 43 by decide)) (fun i => st.2.1 (36, i) (show (36 : Nat) ≠ 3 by decide) (show (36 : Nat) ≠ 4 by decide) (show (36 : Nat) ≠ 7 by decide) (show (36 : Nat) ≠ 23 by decide) (show (36 : Nat) ≠ 42 by decide) (show (36 : Nat) ≠ 43 by decide)) (fun i => st.2.1 (37, i) (show (37 : Nat) ≠ 3 by decide) (show (37 : Nat) ≠ 4 by decide) (show (37 : Nat) ≠ 7 by decide) (show (37 : Nat) ≠ 23 by decide) (show (37 : Nat) ≠ 42 by decide) (show (37 : Nat) ≠ 43 by decide)) (fun i => st.2.1 (38, i) (show (38 : Nat) ≠ 3 by decide) (show (38 : Nat) ≠ 4 by decide) (show (38 : Nat) ≠ 7 by decide) (show (38 : Nat) ≠ 23 by decide) (show (38 : Nat) ≠ 42 by decide) (show (38 : Nat) ≠ 43 by decide)) (fun i => st.2.1 (39, i) (show (39 : Nat) ≠ 3 by decide) (show (39 : Nat) ≠ 4 by decide) (show (39 : Nat) ≠ 7 by decide) (show (39 : Nat) ≠ 23 by decide) (show (39 : Nat) ≠ 42 by decide) (show (39 : Nat) ≠ 43 by decide)) (fun i => st.2.1 (40, i) (show (40 : Nat) ≠ 3 by decide) (show (40 : Nat) ≠ 4 by decide) (show (40 : Nat) ≠ 7 by decide) (show (40 : Nat) ≠ 23 by decide) (show (40 : Nat) ≠ 42 by decide) (show (40 : Nat) ≠ 43 by decide)) rfl rfl rfl rfl rfl rfl rfl rfl rfl rfl rfl rfl rfl rfl rfl rfl rfl rfl rfl rfl rfl rfl rfl rfl
            · exact st.1
            · have q := hc3.c1
              unfold C1 at *
              show _ ∧ _
              rw [show (dwH (lvH h3 t (nI 0)) (nA m) (nI t) (m 1 2) (m 1 2 + m 1 7) (nI 0)).1 TH = h2.1 TH from eT]
              exact q
            · have q := hc3.c2
              unfold C2 at *
              rw [show (dwH (lvH h3 t (nI 0)) (nA m) (nI t) (m 1 2) (m 1 2 + m 1 7) (nI 0)).1 (20, 0) = h2.1 (20, 0) from st.2.1 (20, 0) (show (20 : Nat) ≠ 3 by decide) (show (20 : Nat) ≠ 4 by decide) (show (20 : Nat) ≠ 7 by decide) (show (20 : Nat) ≠ 23 by decide) (show (20 : Nat) ≠ 42 by decide) (show (20 : Nat) ≠ 43 by decide)]
              exact q
            · simp [lvH, dwH, wI_at, st.2.2.1]
            · have q := hc3.c13
              unfold C13 at *
              have f : ∀ s, s ≠ 3 → s ≠ 4 → s ≠ 7 → s ≠ 23 → s ≠ 42 → s ≠ 43 → s ≠ 8 → s ≠ 31 → s ≠ 32 → s ≠ 33 → s ≠ 34 → (dwH (lvH h3 t (nI 0)) (nA m) (nI t) (m 1 2) (m 1 2 + m 1 7) (nI 0)).1 (s, 0) = h2.1 (s, 0) := fun s a b c d e f g1 g2 g3 g4 g5 => by
                unfold dwH lvH
                rw [wI_off _ _ _ _ (s, 0) (ad_ne g1), wI_off _ _ _ _ (s, 0) (ad_ne g5), wI_off _ _ _ _ (s, 0) (ad_ne g4), wI_off _ _ _ _ (s, 0) (ad_ne g3), wI_off _ _ _ _ (s, 0) (ad_ne g2), wI_off _ _ _ _ (s, 0) (ad_ne a), wI_off _ _ _ _ (s, 0) (ad_ne a), wI_off _ _ _ _ (s, 0) (ad_ne a)]
                exact st.2.1 (s, 0) a b c d e f
              rw [f 46 (by decide) (by decide) (by decide) (by decide) (by decide) (by decide) (by decide) (by decide) (by decide) (by decide) (by decide), f 47 (by decide) (by decide) (by decide) (by decide) (by decide) (by decide) (by decide) (by decide) (by decide) (by decide) (by decide), f 48 (by decide) (by decide) (by decide) (by decide) (by decide) (by decide) (by decide) (by decide) (by decide) (by decide) (by decide), f 58 (by decide) (by decide) (by decide) (by decide) (by decide) (by decide) (by decide) (by decide) (by decide) (by decide) (by decide), show (dwH (lvH h3 t (nI 0)) (nA m) (nI t) (m 1 2) (m 1 2 + m 1 7) (nI 0)).2 = h2.2 from st.1]
              exact q
          · refine mo_same (fun b q => ?_)
            have ne : ∀ s, kS s = 0 → b.1 ≠ s := fun s z y => by rw [y] at q; exact q z
            have nd : ∀ s, kS s = 0 → ∀ i, b ≠ (s, i) := fun s z i => ad_ne (ne s z)
            unfold dwH lvH
            rw [wI_off _ _ _ _ b (nd 8 rfl 0), wI_off _ _ _ _ b (nd 34 rfl 0), wI_off _ _ _ _ b (nd 33 rfl 0), wI_off _ _ _ _ b (nd 32 rfl 0), wI_off _ _ _ _ b (nd 31 rfl 0), wI_off _ _ _ _ b (nd 3 rfl t), wI_off _ _ _ _ b (nd 3 rfl t), wI_off _ _ _ _ b (nd 3 rfl t), st.2.1 b (ne 3 rfl) (ne 4 rfl) (ne 7 rfl) (ne 23 rfl) (ne 42 rfl) (ne 43 rfl), ← eh2]
            unfold cbH
            rw [wI_off _ _ _ _ b (nd 3 rfl t), wI_off _ _ _ _ b (nd 3 rfl t), wN_off _ _ _ _ (nd 26 rfl t), wI_off _ _ _ _ b (nd 0 rfl 0)]
        ·
          refine g_bipush (v := -2) (pc' := 49) dX11_back_47 rfl (by decide) ?_
          refine g_iret dX11_back_49 rfl (by decide) (by decide) ?_
          have e : sBack m R (nI t) = (-2, stU m 1 1 (nI 0)) := by unfold sBack; simp only [nI_clamp (show t < 2 ^ 31 by omega)]; exact (cif_t ⟨w2, w8, c26⟩).trans (cif_f c44)
          rw [e]
          exact ⟨rfl, hc1, mo_off rfl⟩
      ·
        refine g_iconst (v := -1) (pc' := 30) dX11_back_29 rfl (by decide) ?_
        refine g_iret dX11_back_30 rfl (by decide) (by decide) ?_
        have e : sBack m R (nI t) = (-1, m) := by unfold sBack; simp only [nI_clamp (show t < 2 ^ 31 by omega)]; exact cif_f (fun z => c26 z.2.2)
        rw [e]
        exact ⟨rfl, hc, rfl⟩
    ·
      refine g_invV (pc' := 11) (cx_holderOfN hok hc hw ht w8) dX11_back_8 rfl rfl ck_12 rfl ml_X11_228 im_X11_holderOf sl_X11_holderOf in_X11 co_X11_holderOf pd_X11_holderOf rfl (by omega) (by decide) ⟨by decide, by decide⟩ (Nat.le_of_ble_eq_true rfl) ?_
      rintro _ _ ⟨rfl, rfl⟩ -
      refine g_astore_n (pc' := 12) dX11_back_11 rfl (by decide) rfl ?_
      try simp only [List.set]
      refine g_aload_n (pc' := 13) dX11_back_12 rfl rfl ?_
      refine g_ifnull (pc' := 16) dX11_back_13 rfl ?_
      refine g_aload_n (pc' := 17) dX11_back_16 rfl rfl ?_
      refine g_ifnullN (tgt := 29) dX11_back_17 (by decide) ?_
      refine g_iconst (v := -1) (pc' := 30) dX11_back_29 rfl (by decide) ?_
      refine g_iret dX11_back_30 rfl (by decide) (by decide) ?_
      have e : sBack m R (nI t) = (-1, m) := by unfold sBack; simp only [nI_clamp (show t < 2 ^ 31 by omega)]; exact cif_f (fun z => w8 z.2.1)
      rw [e]
      exact ⟨rfl, hc, rfl⟩
  ·
    refine g_invV (pc' := 5) (cx_toyAtN hok hc hw w2) dX11_back_2 rfl rfl ck_12 rfl ml_X11_151 im_X11_toyAt sl_X11_toyAt in_X11 co_X11_toyAt pd_X11_toyAt rfl (by omega) (by decide) ⟨by decide, by decide⟩ (Nat.le_of_ble_eq_true rfl) ?_
    rintro _ _ ⟨rfl, rfl⟩ -
    refine g_astore_n (pc' := 6) dX11_back_5 rfl (by decide) rfl ?_
    try simp only [List.set]
    refine g_aload_n (pc' := 7) dX11_back_6 rfl rfl ?_
    refine g_aload_n (pc' := 8) dX11_back_7 rfl rfl ?_
    refine g_invV (pc' := 11) (cx_holderOf0 hok hc hw) dX11_back_8 rfl rfl ck_12 rfl ml_X11_228 im_X11_holderOf sl_X11_holderOf in_X11 co_X11_holderOf pd_X11_holderOf rfl (by omega) (by decide) ⟨by decide, by decide⟩ (Nat.le_of_ble_eq_true rfl) ?_
    rintro _ _ ⟨rfl, rfl⟩ -
    refine g_astore_n (pc' := 12) dX11_back_11 rfl (by decide) rfl ?_
    try simp only [List.set]
    refine g_aload_n (pc' := 13) dX11_back_12 rfl rfl ?_
    refine g_ifnullN (tgt := 29) dX11_back_13 (by decide) ?_
    refine g_iconst (v := -1) (pc' := 30) dX11_back_29 rfl (by decide) ?_
    refine g_iret dX11_back_30 rfl (by decide) (by decide) ?_
    have e : sBack m R t0 = (-1, m) := cif_f (fun z => w2 z.1)
    rw [e]
    exact ⟨rfl, hc, rfl⟩
