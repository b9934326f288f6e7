set_option maxRecDepth 4000 in
theorem lm_isTooOld {E : En} (hok : EOK E) {h h0 : Hp} (hs : Shp h.2) (hw : Wf (mo h)) {t : Nat} (ht : t < nT (mo h)) {d : Nat} (hd : 0 ≤ d) {Q : Option V → Hp → Prop} (hQ : Q (some (vI (bi (0 < nF (mo h) ∧ ∀ f, f < nF (mo h) → mo h 126 f < mo h 108 (kd (mo h) t))))) h) : ∀ n f : Nat, f ≤ nF (mo h) → nF (mo h) - f = n → (∀ i, i < f → mo h 126 i < mo h 108 (kd (mo h) t)) → G E m_X12_isTooOld d 0 0 Q h0 2 [some (vR MO), some (vI (nI t)), some (vI (nI f))] [] h 0 0 := by
  have hNw : h.1 MO 2 = nI (nW (mo h)) := hw.w.1
  have hNwb := hw.w.2
  have hC : h.1 MO 30 = nI (nC (mo h)) := hw.c.1
  have hCb := hw.c.2
  have hK : h.1 MO 3 = nI (nK (mo h)) := hw.k.1
  have hKb := hw.k.2
  have hT : h.1 MO 4 = nI (nT (mo h)) := hw.t.1
  have hTb := hw.t.2
  have hF : h.1 MO 5 = nI (nF (mo h)) := hw.f.1
  have hFb := hw.f.2
  have hRc : h.1 MO 59 = nI (nR (mo h)) := hw.r.1
  have hRb := hw.r.2
  have hG : h.1 MO 60 = nI (nGf (mo h)) := hw.g.1
  have hGb := hw.g.2
  have hA : h.1 MO 70 = nI (nA (mo h)) := hw.a.1
  have hAb := hw.a.2
  have hTl : h.1 MO 1 = nI (nTl (mo h)) := hw.tl.1
  have hTlb := hw.tl.2
  have hkd := (hw.kd ht).2
  intro n
  induction n with
  | zero =>
    intro f h1 h2 hi
    refine g_iload_n (pc' := 3) dX12_isTooOld_2 rfl rfl ?_
    refine g_aload_n (pc' := 4) dX12_isTooOld_3 rfl rfl ?_
    refine g_getIv (v := nI (nF (mo h))) (pc' := 7) (k := 5) dX12_isTooOld_4 rfl rfl ck_13 (by decide) fl_X12_214 rfl (hF) ?_
    refine g_icmp_geN (tgt := 38) (pc' := 10) dX12_isTooOld_7 rfl (by decide) (by omega) (by omega) (fun c7 => ?_) (fun c7 => ?_)
    ·
      refine g_aload_n (pc' := 39) dX12_isTooOld_38 rfl rfl ?_
      refine g_getIv (v := nI (nF (mo h))) (pc' := 42) (k := 5) dX12_isTooOld_39 rfl rfl ck_13 (by decide) fl_X12_214 rfl (hF) ?_
      refine g_if_leN (tgt := 49) (pc' := 45) dX12_isTooOld_42 rfl (by decide) (by omega) (fun c42 => ?_) (fun c42 => ?_)
      ·
        refine g_iconstN (n := 0) (pc' := 50) dX12_isTooOld_49 rfl ?_
        refine g_zret dX12_isTooOld_50 rfl (by rfl) (by decide) (by decide) ?_
        rw [bi_f (P := 0 < nF (mo h) ∧ ∀ f, f < nF (mo h) → mo h 126 f < mo h 108 (kd (mo h) t)) (fun z => by omega)] at hQ
        exact hQ
      ·
        refine g_iconstN (n := 1) (pc' := 46) dX12_isTooOld_45 rfl ?_
        refine g_goto (tgt := 50) dX12_isTooOld_46 (by decide) ?_
        refine g_zret dX12_isTooOld_50 rfl (by rfl) (by decide) (by decide) ?_
        rw [bi_t (P := 0 < nF (mo h) ∧ ∀ f, f < nF (mo h) → mo h 126 f < mo h 108 (kd (mo h) t)) ⟨by omega, fun i q => hi i (by omega)⟩] at hQ
        exact hQ
    · exact absurd c7 (by omega)
  | succ n ih =>
    intro f h1 h2 hi
    refine g_iload_n (pc' := 3) dX12_isTooOld_2 rfl rfl ?_
    refine g_aload_n (pc' := 4) dX12_isTooOld_3 rfl rfl ?_
    refine g_getIv (v := nI (nF (mo h))) (pc' := 7) (k := 5) dX12_isTooOld_4 rfl rfl ck_13 (by decide) fl_X12_214 rfl (hF) ?_
    refine g_icmp_geN (tgt := 38) (pc' := 10) dX12_isTooOld_7 rfl (by decide) (by omega) (by omega) (fun c7 => ?_) (fun c7 => ?_)
    · exact absurd c7 (by omega)
    ·
      refine g_aload_n (pc' := 11) dX12_isTooOld_10 rfl rfl ?_
      refine g_getS (pc' := 14) (k := 8) (b := (108, 0)) dX12_isTooOld_11 rfl rfl ck_13 (by decide) fl_X12_13 rfl hs rfl ?_
      refine g_aload_n (pc' := 15) dX12_isTooOld_14 rfl rfl ?_
      refine g_getS (pc' := 18) (k := 15) (b := (115, 0)) dX12_isTooOld_15 rfl rfl ck_13 (by decide) fl_X12_35 rfl hs rfl ?_
      refine g_iload_n (pc' := 19) dX12_isTooOld_18 rfl rfl ?_
      refine g_ialdN (pc' := 20) (v := nI (kd (mo h) t)) dX12_isTooOld_19 rfl rfl (by decide) (by omega) ((hw.kd ht).1) ?_
      refine g_ialdN (pc' := 21) (v := _) dX12_isTooOld_20 rfl rfl (by decide) (by omega) (rfl) ?_
      refine g_aload_n (pc' := 22) dX12_isTooOld_21 rfl rfl ?_
      refine g_getS (pc' := 25) (k := 26) (b := (126, 0)) dX12_isTooOld_22 rfl rfl ck_13 (by decide) fl_X12_69 rfl hs rfl ?_
      refine g_iload_n (pc' := 26) dX12_isTooOld_25 rfl rfl ?_
      refine g_ialdN (pc' := 27) (v := _) dX12_isTooOld_26 rfl rfl (by decide) (by omega) (rfl) ?_
      refine g_icmp_gt (tgt := 32) (pc' := 30) dX12_isTooOld_27 rfl (by decide) (fun c27 => ?_) (fun c27 => ?_)
      ·
        refine g_iincN (k := 1) (pc' := 35) dX12_isTooOld_32 rfl rfl (by decide) rfl ?_
        try simp only [List.set]
        refine g_goto (tgt := 2) dX12_isTooOld_35 (by decide) ?_
        exact ih (f + 1) (by omega) (by omega) (lt_s hi (c27))
      ·
        refine g_iconstN (n := 0) (pc' := 31) dX12_isTooOld_30 rfl ?_
        refine g_zret dX12_isTooOld_31 rfl (by rfl) (by decide) (by decide) ?_
        rw [bi_f (P := 0 < nF (mo h) ∧ ∀ f, f < nF (mo h) → mo h 126 f < mo h 108 (kd (mo h) t)) (fun z => c27 (z.2 f (by omega)))] at hQ
        exact hQ
set_option maxRecDepth 4000 in
theorem cm_isTooOld {E : En} (hok : EOK E) {h : Hp} (hs : Shp h.2) (hw : Wf (mo h)) {t : Nat} (ht : t < nT (mo h)) : Fn E m_X12_isTooOld 0 [vR MO, vI (nI t)] h (vI (bi (0 < nF (mo h) ∧ ∀ f, f < nF (mo h) → mo h 126 f < mo h 108 (kd (mo h) t)))) := by
  have hNw : h.1 MO 2 = nI (nW (mo h)) := hw.w.1
  have hNwb := hw.w.2
  have hC : h.1 MO 30 = nI (nC (mo h)) := hw.c.1
  have hCb := hw.c.2
  have hK : h.1 MO 3 = nI (nK (mo h)) := hw.k.1
  have hKb := hw.k.2
  have hT : h.1 MO 4 = nI (nT (mo h)) := hw.t.1
  have hTb := hw.t.2
  have hF : h.1 MO 5 = nI (nF (mo h)) := hw.f.1
  have hFb := hw.f.2
  have hRc : h.1 MO 59 = nI (nR (mo h)) := hw.r.1
  have hRb := hw.r.2
  have hG : h.1 MO 60 = nI (nGf (mo h)) := hw.g.1
  have hGb := hw.g.2
  have hA : h.1 MO 70 = nI (nA (mo h)) := hw.a.1
  have hAb := hw.a.2
  have hTl : h.1 MO 1 = nI (nTl (mo h)) := hw.tl.1
  have hTlb := hw.tl.2
  refine Call.enter hok (by decide) (Nat.le_of_ble_eq_true rfl) ?_
  show G E m_X12_isTooOld 0 0 0 _ h 0 [some (vR MO), some (vI (nI t)), none] [] h 0 0
  refine g_iconstN (n := 0) (pc' := 1) dX12_isTooOld_0 rfl ?_
  refine g_istore_n (pc' := 2) dX12_isTooOld_1 rfl (by decide) rfl ?_
  try simp only [List.set]
  exact lm_isTooOld hok hs hw ht (Nat.le_refl _) ⟨rfl, rfl⟩ _ 0 (Nat.zero_le _) rfl (fun i q => absurd q (Nat.not_lt_zero i))
set_option maxRecDepth 4000 in
theorem lm_isBarredForAll {E : En} (hok : EOK E) {h h0 : Hp} (hs : Shp h.2) (hw : Wf (mo h)) {t : Nat} (ht : t < nT (mo h)) {d : Nat} (hd : 1 ≤ d) {Q : Option V → Hp → Prop} (hQ : Q (some (vI (bi (0 < nF (mo h) ∧ ∀ f, f < nF (mo h) → barred (mo h) t f)))) h) : ∀ n f : Nat, f ≤ nF (mo h) → nF (mo h) - f = n → (∀ i, i < f → barred (mo h) t i) → G E m_X12_isBarredForAll d 0 0 Q h0 2 [some (vR MO), some (vI (nI t)), some (vI (nI f))] [] h 0 0 := by
  have hNw : h.1 MO 2 = nI (nW (mo h)) := hw.w.1
  have hNwb := hw.w.2
  have hC : h.1 MO 30 = nI (nC (mo h)) := hw.c.1
  have hCb := hw.c.2
  have hK : h.1 MO 3 = nI (nK (mo h)) := hw.k.1
  have hKb := hw.k.2
  have hT : h.1 MO 4 = nI (nT (mo h)) := hw.t.1
  have hTb := hw.t.2
  have hF : h.1 MO 5 = nI (nF (mo h)) := hw.f.1
  have hFb := hw.f.2
  have hRc : h.1 MO 59 = nI (nR (mo h)) := hw.r.1
  have hRb := hw.r.2
  have hG : h.1 MO 60 = nI (nGf (mo h)) := hw.g.1
  have hGb := hw.g.2
  have hA : h.1 MO 70 = nI (nA (mo h)) := hw.a.1
  have hAb := hw.a.2
  have hTl : h.1 MO 1 = nI (nTl (mo h)) := hw.tl.1
  have hTlb := hw.tl.2
  have hkd := (hw.kd ht).2
  intro n
  induction n with
  | zero =>
    intro f h1 h2 hi
    refine g_iload_n (pc' := 3) dX12_isBarredForAll_2 rfl rfl ?_
    refine g_aload_n (pc' := 4) dX12_isBarredForAll_3 rfl rfl ?_
    refine g_getIv (v := nI (nF (mo h))) (pc' := 7) (k := 5) dX12_isBarredForAll_4 rfl rfl ck_13 (by decide) fl_X12_214 rfl (hF) ?_
    refine g_icmp_geN (tgt := 27) (pc' := 10) dX12_isBarredForAll_7 rfl (by decide) (by omega) (by omega) (fun c7 => ?_) (fun c7 => ?_)
    ·
      refine g_aload_n (pc' := 28) dX12_isBarredForAll_27 rfl rfl ?_
      refine g_getIv (v := nI (nF (mo h))) (pc' := 31) (k := 5) dX12_isBarredForAll_28 rfl rfl ck_13 (by decide) fl_X12_214 rfl (hF) ?_
      refine g_if_leN (tgt := 38) (pc' := 34) dX12_isBarredForAll_31 rfl (by decide) (by omega) (fun c31 => ?_) (fun c31 => ?_)
      ·
        refine g_iconstN (n := 0) (pc' := 39) dX12_isBarredForAll_38 rfl ?_
        refine g_zret dX12_isBarredForAll_39 rfl (by rfl) (by decide) (by decide) ?_
        rw [bi_f (P := 0 < nF (mo h) ∧ ∀ f, f < nF (mo h) → barred (mo h) t f) (fun z => by omega)] at hQ
        exact hQ
      ·
        refine g_iconstN (n := 1) (pc' := 35) dX12_isBarredForAll_34 rfl ?_
        refine g_goto (tgt := 39) dX12_isBarredForAll_35 (by decide) ?_
        refine g_zret dX12_isBarredForAll_39 rfl (by rfl) (by decide) (by decide) ?_
        rw [bi_t (P := 0 < nF (mo h) ∧ ∀ f, f < nF (mo h) → barred (mo h) t f) ⟨by omega, fun i q => hi i (by omega)⟩] at hQ
        exact hQ
    · exact absurd c7 (by omega)
  | succ n ih =>
    intro f h1 h2 hi
    refine g_iload_n (pc' := 3) dX12_isBarredForAll_2 rfl rfl ?_
    refine g_aload_n (pc' := 4) dX12_isBarredForAll_3 rfl rfl ?_
    refine g_getIv (v := nI (nF (mo h))) (pc' := 7) (k := 5) dX12_isBarredForAll_4 rfl rfl ck_13 (by decide) fl_X12_214 rfl (hF) ?_
    refine g_icmp_geN (tgt := 27) (pc' := 10) dX12_isBarredForAll_7 rfl (by decide) (by omega) (by omega) (fun c7 => ?_) (fun c7 => ?_)
    · exact absurd c7 (by omega)
    ·
      refine g_aload_n (pc' := 11) dX12_isBarredForAll_10 rfl rfl ?_
      refine g_iload_n (pc' := 12) dX12_isBarredForAll_11 rfl rfl ?_
      refine g_iload_n (pc' := 13) dX12_isBarredForAll_12 rfl rfl ?_
      refine g_invV (pc' := 16) (cm_isBarred hok hs hw (t := t) (f := f) (by omega) (by omega)) dX12_isBarredForAll_13 rfl rfl ck_13 rfl ml_X12_455 im_X12_isBarred sl_X12_isBarred in_X12 co_X12_isBarred pd_X12_isBarred rfl (by omega) (by decide) ⟨by decide, by decide⟩ (Nat.le_of_ble_eq_true rfl) ?_
      rintro _ _ ⟨rfl, rfl⟩ -
      refine g_ifB_ne (tgt := 21) (pc' := 19) dX12_isBarredForAll_16 rfl (by decide) (fun c16 => ?_) (fun c16 => ?_)
      ·
        refine g_iincN (k := 1) (pc' := 24) dX12_isBarredForAll_21 rfl rfl (by decide) rfl ?_
        try simp only [List.set]
        refine g_goto (tgt := 2) dX12_isBarredForAll_24 (by decide) ?_
        exact ih (f + 1) (by omega) (by omega) (lt_s hi (c16))
      ·
        refine g_iconstN (n := 0) (pc' := 20) dX12_isBarredForAll_19 rfl ?_
        refine g_zret dX12_isBarredForAll_20 rfl (by rfl) (by decide) (by decide) ?_
        rw [bi_f (P := 0 < nF (mo h) ∧ ∀ f, f < nF (mo h) → barred (mo h) t f) (fun z => c16 (z.2 f (by omega)))] at hQ
        exact hQ
set_option maxRecDepth 4000 in
theorem cm_isBarredForAll {E : En} (hok : EOK E) {h : Hp} (hs : Shp h.2) (hw : Wf (mo h)) {t : Nat} (ht : t < nT (mo h)) : Fn E m_X12_isBarredForAll 1 [vR MO, vI (nI t)] h (vI (bi (0 < nF (mo h) ∧ ∀ f, f < nF (mo h) → barred (mo h) t f))) := by
  have hNw : h.1 MO 2 = nI (nW (mo h)) := hw.w.1
  have hNwb := hw.w.2
  have hC : h.1 MO 30 = nI (nC (mo h)) := hw.c.1
  have hCb := hw.c.2
  have hK : h.1 MO 3 = nI (nK (mo h)) := hw.k.1
  have hKb := hw.k.2
  have hT : h.1 MO 4 = nI (nT (mo h)) := hw.t.1
  have hTb := hw.t.2
  have hF : h.1 MO 5 = nI (nF (mo h)) := hw.f.1
  have hFb := hw.f.2
  have hRc : h.1 MO 59 = nI (nR (mo h)) := hw.r.1
  have hRb := hw.r.2
  have hG : h.1 MO 60 = nI (nGf (mo h)) := hw.g.1
  have hGb := hw.g.2
  have hA : h.1 MO 70 = nI (nA (mo h)) := hw.a.1
  have hAb := hw.a.2
  have hTl : h.1 MO 1 = nI (nTl (mo h)) := hw.tl.1
  have hTlb := hw.tl.2
  refine Call.enter hok (by decide) (Nat.le_of_ble_eq_true rfl) ?_
  show G E m_X12_isBarredForAll 1 0 0 _ h 0 [some (vR MO), some (vI (nI t)), none] [] h 0 0
  refine g_iconstN (n := 0) (pc' := 1) dX12_isBarredForAll_0 rfl ?_
  refine g_istore_n (pc' := 2) dX12_isBarredForAll_1 rfl (by decide) rfl ?_
  try simp only [List.set]
  exact lm_isBarredForAll hok hs hw ht (Nat.le_refl _) ⟨rfl, rfl⟩ _ 0 (Nat.zero_le _) rfl (fun i q => absurd q (Nat.not_lt_zero i))
/-- why a toy is unwanted -/
noncomputable def whyR (m : St) (t : Nat) : Nat := cif (isRec m t) 1 (cif (¬ m 124 t = 0) 2 (cif (0 < lck m t) 3 (cif (m 112 (kd m t) ≤ m 117 t) 4 (cif (nI 7 ≤ m 110 (kd m t)) 5 (cif (0 < nF m ∧ ∀ f, f < nF m → m 126 f < m 108 (kd m t)) 6 (cif (0 < nF m ∧ ∀ f, f < nF m → barred m t f) 7 8))))))
def unwd (m : St) (t : Nat) (d : Int32) : Prop := m 118 t = 0 ∧ m 123 t ≤ m 1 2 - d ∧ wfr m (kd m t) = 0
noncomputable def whyF (m : St) (t : Nat) (d : Int32) : Nat := cif (unwd m t d) (whyR m t) 0
set_option maxRecDepth 4000 in
theorem cm_whyOf {E : En} (hok : EOK E) {h : Hp} (hs : Shp h.2) (hw : Wf (mo h)) {t : Nat} (ht : t < nT (mo h)) (d : Int32) : Fn E m_X12_whyOf 3 [vR MO, vI (nI t), vI (d)] h (vI (nI (whyF (mo h) t d))) := by
  have hNw : h.1 MO 2 = nI (nW (mo h)) := hw.w.1
  have hNwb := hw.w.2
  have hC : h.1 MO 30 = nI (nC (mo h)) := hw.c.1
  have hCb := hw.c.2
  have hK : h.1 MO 3 = nI (nK (mo h)) := hw.k.1
  have hKb := hw.k.2
  have hT : h.1 MO 4 = nI (nT (mo h)) := hw.t.1
  have hTb := hw.t.2
  have hF : h.1 MO 5 = nI (nF (mo h)) := hw.f.1
  have hFb := hw.f.2
  have hRc : h.1 MO 59 = nI (nR (mo h)) := hw.r.1
  have hRb := hw.r.2
  have hG : h.1 MO 60 = nI (nGf (mo h)) := hw.g.1
  have hGb := hw.g.2
  have hA : h.1 MO 70 = nI (nA (mo h)) := hw.a.1
  have hAb := hw.a.2
  have hTl : h.1 MO 1 = nI (nTl (mo h)) := hw.tl.1
  have hTlb := hw.tl.2
  have hkd := (hw.kd ht).2
  have hwb : wfr (mo h) (kd (mo h) t) ≤ nF (mo h) := cnt_le _ _
  refine Call.enter hok (by decide) (Nat.le_of_ble_eq_true rfl) ?_
  show G E m_X12_whyOf 3 0 0 _ h 0 [some (vR MO), some (vI (nI t)), some (vI d)] [] h 0 0
  refine g_aload_n (pc' := 1) dX12_whyOf_0 rfl rfl ?_
  refine g_getS (pc' := 4) (k := 18) (b := (118, 0)) dX12_whyOf_1 rfl rfl ck_13 (by decide) fl_X12_44 rfl hs rfl ?_
  refine g_iload_n (pc' := 5) dX12_whyOf_4 rfl rfl ?_
  refine g_ialdN (pc' := 6) (v := _) dX12_whyOf_5 rfl rfl (by decide) (by omega) (rfl) ?_
  refine g_if_ne (tgt := 37) (pc' := 9) dX12_whyOf_6 rfl (by decide) (fun c6 => ?_) (fun c6 => ?_)
  ·
    refine g_iconstN (n := 0) (pc' := 38) dX12_whyOf_37 rfl ?_
    refine g_iret dX12_whyOf_38 rfl (by decide) (by decide) ?_
    exact ⟨congrArg (fun z : Nat => some (vI (nI z))) (show 0 = whyF (mo h) t d from (cif_f (fun z => c6 z.1)).symm), rfl⟩
  ·
    refine g_aload_n (pc' := 10) dX12_whyOf_9 rfl rfl ?_
    refine g_getS (pc' := 13) (k := 23) (b := (123, 0)) dX12_whyOf_10 rfl rfl ck_13 (by decide) fl_X12_59 rfl hs rfl ?_
    refine g_iload_n (pc' := 14) dX12_whyOf_13 rfl rfl ?_
    refine g_ialdN (pc' := 15) (v := _) dX12_whyOf_14 rfl rfl (by decide) (by omega) (rfl) ?_
    refine g_aload_n (pc' := 16) dX12_whyOf_15 rfl rfl ?_
    refine g_getI (pc' := 19) (k := 2) dX12_whyOf_16 rfl rfl ck_13 (by decide) fl_X12_219 rfl ?_
    refine g_iload_n (pc' := 20) dX12_whyOf_19 rfl rfl ?_
    refine g_isub (pc' := 21) dX12_whyOf_20 rfl ?_
    refine g_icmp_gt (tgt := 37) (pc' := 24) dX12_whyOf_21 rfl (by decide) (fun c21 => ?_) (fun c21 => ?_)
    ·
      refine g_iconstN (n := 0) (pc' := 38) dX12_whyOf_37 rfl ?_
      refine g_iret dX12_whyOf_38 rfl (by decide) (by decide) ?_
      exact ⟨congrArg (fun z : Nat => some (vI (nI z))) (show 0 = whyF (mo h) t d from (cif_f (fun z => absurd z.2.1 (Int32.not_le.mpr c21))).symm), rfl⟩
    ·
      refine g_aload_n (pc' := 25) dX12_whyOf_24 rfl rfl ?_
      refine g_aload_n (pc' := 26) dX12_whyOf_25 rfl rfl ?_
      refine g_getS (pc' := 29) (k := 15) (b := (115, 0)) dX12_whyOf_26 rfl rfl ck_13 (by decide) fl_X12_35 rfl hs rfl ?_
      refine g_iload_n (pc' := 30) dX12_whyOf_29 rfl rfl ?_
      refine g_ialdN (pc' := 31) (v := nI (kd (mo h) t)) dX12_whyOf_30 rfl rfl (by decide) (by omega) ((hw.kd ht).1) ?_
      refine g_invV (pc' := 34) (cm_waitingFor hok hs hw (k := kd (mo h) t) (by omega)) dX12_whyOf_31 rfl rfl ck_13 rfl ml_X12_400 im_X12_waitingFor sl_X12_waitingFor in_X12 co_X12_waitingFor pd_X12_waitingFor rfl (by omega) (by decide) ⟨by decide, by decide⟩ (Nat.le_of_ble_eq_true rfl) ?_
      rintro _ _ ⟨rfl, rfl⟩ -
      refine g_if_leN (tgt := 39) (pc' := 37) dX12_whyOf_34 rfl (by decide) (by omega) (fun c34 => ?_) (fun c34 => ?_)
      ·
        refine g_aload_n (pc' := 40) dX12_whyOf_39 rfl rfl ?_
        refine g_iload_n (pc' := 41) dX12_whyOf_40 rfl rfl ?_
        refine g_invV (pc' := 44) (cm_isRecalled hok hs hw (t := t) (by omega)) dX12_whyOf_41 rfl rfl ck_13 rfl ml_X12_452 im_X12_isRecalled sl_X12_isRecalled in_X12 co_X12_isRecalled pd_X12_isRecalled rfl (by omega) (by decide) ⟨by decide, by decide⟩ (Nat.le_of_ble_eq_true rfl) ?_
        rintro _ _ ⟨rfl, rfl⟩ -
        refine g_ifB_eq (tgt := 49) (pc' := 47) dX12_whyOf_44 rfl (by decide) (fun c44 => ?_) (fun c44 => ?_)
        ·
          refine g_aload_n (pc' := 50) dX12_whyOf_49 rfl rfl ?_
          refine g_getS (pc' := 53) (k := 24) (b := (124, 0)) dX12_whyOf_50 rfl rfl ck_13 (by decide) fl_X12_62 rfl hs rfl ?_
          refine g_iload_n (pc' := 54) dX12_whyOf_53 rfl rfl ?_
          refine g_zaldN (pc' := 55) (v := _) dX12_whyOf_54 rfl rfl (by decide) (by omega) (rfl) ?_
          refine g_if_eq (tgt := 60) (pc' := 58) dX12_whyOf_55 rfl (by decide) (fun c55 => ?_) (fun c55 => ?_)
          ·
            refine g_aload_n (pc' := 61) dX12_whyOf_60 rfl rfl ?_
            refine g_iload_n (pc' := 62) dX12_whyOf_61 rfl rfl ?_
            refine g_invV (pc' := 65) (cm_lackingOf hok hs hw (t := t) (by omega)) dX12_whyOf_62 rfl rfl ck_13 rfl ml_X12_390 im_X12_lackingOf sl_X12_lackingOf in_X12 co_X12_lackingOf pd_X12_lackingOf rfl (by omega) (by decide) ⟨by decide, by decide⟩ (Nat.le_of_ble_eq_true rfl) ?_
            rintro _ _ ⟨rfl, rfl⟩ -
            refine g_if_le (tgt := 70) (pc' := 68) dX12_whyOf_65 rfl (by decide) (fun c65 => ?_) (fun c65 => ?_)
            ·
              refine g_aload_n (pc' := 71) dX12_whyOf_70 rfl rfl ?_
              refine g_getS (pc' := 74) (k := 17) (b := (117, 0)) dX12_whyOf_71 rfl rfl ck_13 (by decide) fl_X12_41 rfl hs rfl ?_
              refine g_iload_n (pc' := 75) dX12_whyOf_74 rfl rfl ?_
              refine g_ialdN (pc' := 76) (v := _) dX12_whyOf_75 rfl rfl (by decide) (by omega) (rfl) ?_
              refine g_aload_n (pc' := 77) dX12_whyOf_76 rfl rfl ?_
              refine g_getS (pc' := 80) (k := 12) (b := (112, 0)) dX12_whyOf_77 rfl rfl ck_13 (by decide) fl_X12_26 rfl hs rfl ?_
              refine g_aload_n (pc' := 81) dX12_whyOf_80 rfl rfl ?_
              refine g_getS (pc' := 84) (k := 15) (b := (115, 0)) dX12_whyOf_81 rfl rfl ck_13 (by decide) fl_X12_35 rfl hs rfl ?_
              refine g_iload_n (pc' := 85) dX12_whyOf_84 rfl rfl ?_
              refine g_ialdN (pc' := 86) (v := nI (kd (mo h) t)) dX12_whyOf_85 rfl rfl (by decide) (by omega) ((hw.kd ht).1) ?_
              refine g_ialdN (pc' := 87) (v := _) dX12_whyOf_86 rfl rfl (by decide) (by omega) (rfl) ?_
              refine g_icmp_lt (tgt := 92) (pc' := 90) dX12_whyOf_87 rfl (by decide) (fun c87 => ?_) (fun c87 => ?_)
              ·
                refine g_aload_n (pc' := 93) dX12_whyOf_92 rfl rfl ?_
                refine g_getS (pc' := 96) (k := 10) (b := (110, 0)) dX12_whyOf_93 rfl rfl ck_13 (by decide) fl_X12_20 rfl hs rfl ?_
                refine g_aload_n (pc' := 97) dX12_whyOf_96 rfl rfl ?_
                refine g_getS (pc' := 100) (k := 15) (b := (115, 0)) dX12_whyOf_97 rfl rfl ck_13 (by decide) fl_X12_35 rfl hs rfl ?_
                refine g_iload_n (pc' := 101) dX12_whyOf_100 rfl rfl ?_
                refine g_ialdN (pc' := 102) (v := nI (kd (mo h) t)) dX12_whyOf_101 rfl rfl (by decide) (by omega) ((hw.kd ht).1) ?_
                refine g_ialdN (pc' := 103) (v := _) dX12_whyOf_102 rfl rfl (by decide) (by omega) (rfl) ?_
                refine g_bipushN (n := 7) (pc' := 105) dX12_whyOf_103 rfl (by decide) ?_
                refine g_icmp_lt (tgt := 110) (pc' := 108) dX12_whyOf_105 rfl (by decide) (fun c105 => ?_) (fun c105 => ?_)
                ·
                  refine g_aload_n (pc' := 111) dX12_whyOf_110 rfl rfl ?_
                  refine g_iload_n (pc' := 112) dX12_whyOf_111 rfl rfl ?_
                  refine g_invV (pc' := 115) (cm_isTooOld hok hs hw (t := t) (by omega)) dX12_whyOf_112 rfl rfl ck_13 rfl ml_X12_550 im_X12_isTooOld sl_X12_isTooOld in_X12 co_X12_isTooOld pd_X12_isTooOld rfl (by omega) (by decide) ⟨by decide, by decide⟩ (Nat.le_of_ble_eq_true rfl) ?_
                  rintro _ _ ⟨rfl, rfl⟩ -
                  refine g_ifB_eq (tgt := 123) (pc' := 118) dX12_whyOf_115 rfl (by decide) (fun c115 => ?_) (fun c115 => ?_)
                  ·
                    refine g_aload_n (pc' := 124) dX12_whyOf_123 rfl rfl ?_
                    refine g_iload_n (pc' := 125) dX12_whyOf_124 rfl rfl ?_
                    refine g_invV (pc' := 128) (cm_isBarredForAll hok hs hw (t := t) (by omega)) dX12_whyOf_125 rfl rfl ck_13 rfl ml_X12_553 im_X12_isBarredForAll sl_X12_isBarredForAll in_X12 co_X12_isBarredForAll pd_X12_isBarredForAll rfl (by omega) (by decide) ⟨by decide, by decide⟩ (Nat.le_of_ble_eq_true rfl) ?_
                    rintro _ _ ⟨rfl, rfl⟩ -
                    refine g_ifB_eq (tgt := 136) (pc' := 131) dX12_whyOf_128 rfl (by decide) (fun c128 => ?_) (fun c128 => ?_)
                    ·
                      refine g_bipushN (n := 8) (pc' := 138) dX12_whyOf_136 rfl (by decide) ?_
                      refine g_iret dX12_whyOf_138 rfl (by decide) (by decide) ?_
                      have e : whyF (mo h) t d = 8 := (cif_t (show unwd (mo h) t d from ⟨c6, Int32.not_lt.mp c21, c34⟩)).trans ((cif_f c44).trans ((cif_f (fun z => z c55)).trans ((cif_f (fun z => absurd c65 (Int32.not_le.mpr z))).trans ((cif_f (fun z => absurd c87 (Int32.not_lt.mpr z))).trans ((cif_f (fun z => absurd c105 (Int32.not_lt.mpr z))).trans ((cif_f c115).trans (cif_f c128)))))))
                      exact ⟨congrArg (fun z : Nat => some (vI (nI z))) e.symm, rfl⟩
                    ·
                      refine g_bipushN (n := 7) (pc' := 133) dX12_whyOf_131 rfl (by decide) ?_
                      refine g_goto (tgt := 138) dX12_whyOf_133 (by decide) ?_
                      refine g_iret dX12_whyOf_138 rfl (by decide) (by decide) ?_
                      have e : whyF (mo h) t d = 7 := (cif_t (show unwd (mo h) t d from ⟨c6, Int32.not_lt.mp c21, c34⟩)).trans ((cif_f c44).trans ((cif_f (fun z => z c55)).trans ((cif_f (fun z => absurd c65 (Int32.not_le.mpr z))).trans ((cif_f (fun z => absurd c87 (Int32.not_lt.mpr z))).trans ((cif_f (fun z => absurd c105 (Int32.not_lt.mpr z))).trans ((cif_f c115).trans (cif_t c128)))))))
                      exact ⟨congrArg (fun z : Nat => some (vI (nI z))) e.symm, rfl⟩
                  ·
                    refine g_bipushN (n := 6) (pc' := 120) dX12_whyOf_118 rfl (by decide) ?_
                    refine g_goto (tgt := 138) dX12_whyOf_120 (by decide) ?_
                    refine g_iret dX12_whyOf_138 rfl (by decide) (by decide) ?_
                    have e : whyF (mo h) t d = 6 := (cif_t (show unwd (mo h) t d from ⟨c6, Int32.not_lt.mp c21, c34⟩)).trans ((cif_f c44).trans ((cif_f (fun z => z c55)).trans ((cif_f (fun z => absurd c65 (Int32.not_le.mpr z))).trans ((cif_f (fun z => absurd c87 (Int32.not_lt.mpr z))).trans ((cif_f (fun z => absurd c105 (Int32.not_lt.mpr z))).trans (cif_t c115))))))
                    exact ⟨congrArg (fun z : Nat => some (vI (nI z))) e.symm, rfl⟩
                ·
                  refine g_iconstN (n := 5) (pc' := 109) dX12_whyOf_108 rfl ?_
                  refine g_iret dX12_whyOf_109 rfl (by decide) (by decide) ?_
                  have e : whyF (mo h) t d = 5 := (cif_t (show unwd (mo h) t d from ⟨c6, Int32.not_lt.mp c21, c34⟩)).trans ((cif_f c44).trans ((cif_f (fun z => z c55)).trans ((cif_f (fun z => absurd c65 (Int32.not_le.mpr z))).trans ((cif_f (fun z => absurd c87 (Int32.not_lt.mpr z))).trans (cif_t (Int32.not_lt.mp c105))))))
                  exact ⟨congrArg (fun z : Nat => some (vI (nI z))) e.symm, rfl⟩
              ·
                refine g_iconstN (n := 4) (pc' := 91) dX12_whyOf_90 rfl ?_
                refine g_iret dX12_whyOf_91 rfl (by decide) (by decide) ?_
                have e : whyF (mo h) t d = 4 := (cif_t (show unwd (mo h) t d from ⟨c6, Int32.not_lt.mp c21, c34⟩)).trans ((cif_f c44).trans ((cif_f (fun z => z c55)).trans ((cif_f (fun z => absurd c65 (Int32.not_le.mpr z))).trans (cif_t (Int32.not_lt.mp c87)))))
                exact ⟨congrArg (fun z : Nat => some (vI (nI z))) e.symm, rfl⟩
            ·
              refine g_iconstN (n := 3) (pc' := 69) dX12_whyOf_68 rfl ?_
              refine g_iret dX12_whyOf_69 rfl (by decide) (by decide) ?_
              have e : whyF (mo h) t d = 3 := (cif_t (show unwd (mo h) t d from ⟨c6, Int32.not_lt.mp c21, c34⟩)).trans ((cif_f c44).trans ((cif_f (fun z => z c55)).trans (cif_t (Int32.not_le.mp c65))))
              exact ⟨congrArg (fun z : Nat => some (vI (nI z))) e.symm, rfl⟩
          ·
            refine g_iconstN (n := 2) (pc' := 59) dX12_whyOf_58 rfl ?_
            refine g_iret dX12_whyOf_59 rfl (by decide) (by decide) ?_
            have e : whyF (mo h) t d = 2 := (cif_t (show unwd (mo h) t d from ⟨c6, Int32.not_lt.mp c21, c34⟩)).trans ((cif_f c44).trans (cif_t c55))
            exact ⟨congrArg (fun z : Nat => some (vI (nI z))) e.symm, rfl⟩
        ·
          refine g_iconstN (n := 1) (pc' := 48) dX12_whyOf_47 rfl ?_
          refine g_iret dX12_whyOf_48 rfl (by decide) (by decide) ?_
          have e : whyF (mo h) t d = 1 := (cif_t (show unwd (mo h) t d from ⟨c6, Int32.not_lt.mp c21, c34⟩)).trans (cif_t c44)
          exact ⟨congrArg (fun z : Nat => some (vI (nI z))) e.symm, rfl⟩
      ·
        refine g_iconstN (n := 0) (pc' := 38) dX12_whyOf_37 rfl ?_
        refine g_iret dX12_whyOf_38 rfl (by decide) (by decide) ?_
        exact ⟨congrArg (fun z : Nat => some (vI (nI z))) (show 0 = whyF (mo h) t d from (cif_f (fun z => c34 z.2.2)).symm), rfl⟩
noncomputable def sWhy (m : St) (t0 : Int32) (x : Int32) : Int32 × St := cif ((∃ j : Nat, j < nT m ∧ t0 = nI j) ∧ (1 ≤ x ∧ x ≤ 700)) (nI (whyF m t0.toNatClampNeg x), m) (-1, m)
set_option maxRecDepth 4000 in
theorem cm_why {E : En} (hok : EOK E) {h : Hp} (hs : Shp h.2) (hw : Wf (mo h)) (t0 : Int32) (x : Int32) : Call E m_X12_why 4 0 0 [vR MO, vI t0, vI x] h (fun r h' => r = some (vI (sWhy (mo h) t0 x).1) ∧ mo h' = (sWhy (mo h) t0 x).2 ∧ Mk h h') := by
  have hNw : h.1 MO 2 = nI (nW (mo h)) := hw.w.1
  have hNwb := hw.w.2
  have hC : h.1 MO 30 = nI (nC (mo h)) := hw.c.1
  have hCb := hw.c.2
  have hK : h.1 MO 3 = nI (nK (mo h)) := hw.k.1
  have hKb := hw.k.2
  have hT : h.1 MO 4 = nI (nT (mo h)) := hw.t.1
  have hTb := hw.t.2
  have hF : h.1 MO 5 = nI (nF (mo h)) := hw.f.1
  have hFb := hw.f.2
  have hRc : h.1 MO 59 = nI (nR (mo h)) := hw.r.1
  have hRb := hw.r.2
  have hG : h.1 MO 60 = nI (nGf (mo h)) := hw.g.1
  have hGb := hw.g.2
  have hA : h.1 MO 70 = nI (nA (mo h)) := hw.a.1
  have hAb := hw.a.2
  have hTl : h.1 MO 1 = nI (nTl (mo h)) := hw.tl.1
  have hTlb := hw.tl.2
  refine Call.enter hok (by decide) (Nat.le_of_ble_eq_true rfl) ?_
  show G E m_X12_why 4 0 0 _ h 0 [some (vR MO), some (vI t0), some (vI x)] [] h 0 0
  refine g_aload_n (pc' := 1) dX12_why_0 rfl rfl ?_
  refine g_iload_n (pc' := 2) dX12_why_1 rfl rfl ?_
  refine g_invV (pc' := 5) (cm_isToy hok hw _) dX12_why_2 rfl rfl ck_13 rfl ml_X12_443 im_X12_isToy sl_X12_isToy in_X12 co_X12_isToy pd_X12_isToy rfl (by omega) (by decide) ⟨by decide, by decide⟩ (Nat.le_of_ble_eq_true rfl) ?_
  rintro _ _ ⟨rfl, rfl⟩ -
  refine g_ifB_eq (tgt := 29) (pc' := 8) dX12_why_5 rfl (by decide) (fun c5 => ?_) (fun c5 => ?_)
  ·
    refine g_iconst (v := -1) (pc' := 30) dX12_why_29 rfl (by decide) ?_
    refine g_iret dX12_why_30 rfl (by decide) (by decide) ?_
    have e : sWhy (mo h) t0 x = (-1, mo h) := by exact cif_f (by rintro ⟨z0, z1⟩; contradiction)
    rw [e]
    exact ⟨rfl, rfl, Mk.rf h⟩
  ·
    have k5 := c5
    obtain ⟨t, ht, rfl⟩ := k5
    refine g_iload_n (pc' := 9) dX12_why_8 rfl rfl ?_
    refine g_i2l (pc' := 10) dX12_why_9 rfl ?_
    refine g_lconst (v := 1) (pc' := 11) dX12_why_10 rfl rfl ?_
    refine g_ldc2 (pc' := 14) dX12_why_11 rfl kc_X12_556 ?_
    refine g_invS (pc' := 17) (c_liesI hok _ (1) (700) rfl (by decide) (by decide)) dX12_why_14 rfl ml_X12_203 st_X12_lies in_X12 co_X12_lies pd_X12_lies rfl (by omega) (by decide) ⟨by decide, by decide⟩ (Nat.le_of_ble_eq_true rfl) ?_
    rintro _ _ ⟨rfl, rfl⟩ -
    refine g_ifB_eq (tgt := 29) (pc' := 20) dX12_why_17 rfl (by decide) (fun c17 => ?_) (fun c17 => ?_)
    ·
      refine g_iconst (v := -1) (pc' := 30) dX12_why_29 rfl (by decide) ?_
      refine g_iret dX12_why_30 rfl (by decide) (by decide) ?_
      have e : sWhy (mo h) (nI t) x = (-1, mo h) := by unfold sWhy; simp only [nI_clamp (show t < 2 ^ 31 by omega)]; exact cif_f (by rintro ⟨z0, z1⟩; contradiction)
      rw [e]
      exact ⟨rfl, rfl, Mk.rf h⟩
    ·
      refine g_aload_n (pc' := 21) dX12_why_20 rfl rfl ?_
      refine g_iload_n (pc' := 22) dX12_why_21 rfl rfl ?_
      refine g_iload_n (pc' := 23) dX12_why_22 rfl rfl ?_
      refine g_invV (pc' := 26) (cm_whyOf hok hs hw (t := t) (by omega) _) dX12_why_23 rfl rfl ck_13 rfl ml_X12_558 im_X12_whyOf sl_X12_whyOf in_X12 co_X12_whyOf pd_X12_whyOf rfl (by omega) (by decide) ⟨by decide, by decide⟩ (Nat.le_of_ble_eq_true rfl) ?_
      rintro _ _ ⟨rfl, rfl⟩ -
      refine g_goto (tgt := 30) dX12_why_26 (by decide) ?_
      refine g_iret dX12_why_30 rfl (by decide) (by decide) ?_
      have e : sWhy (mo h) (nI t) x = (nI (whyF (mo h) t x), (mo h)) := by unfold sWhy; simp only [nI_clamp (show t < 2 ^ 31 by omega)]; exact cif_t ⟨by assumption, by assumption⟩
      rw [e]
      exact ⟨rfl, rfl, Mk.rf h⟩
theorem orr_s (f : Nat → Int32) (n : Nat) : orr f (n + 1) = orr f n ||| f n := rfl
noncomputable def unwS (m : St) (x : Int32) : Int32 := orr (fun t => cif (0 < whyF m t x) ((1 : Int32) <<< (nI t &&& 31)) 0) (nT m)
theorem whyF_le (m : St) (t : Nat) (x : Int32) : whyF m t x ≤ 8 := by
  unfold whyF whyR cif
  repeat' split
  all_goals omega
set_option maxRecDepth 4000 in
theorem lm_unwanted {E : En} (hok : EOK E) {h h0 : Hp} (hs : Shp h.2) (hw : Wf (mo h)) (x : Int32) {d : Nat} (hd : 4 ≤ d) {Q : Option V → Hp → Prop} (hQ : Q (some (vI (unwS (mo h) x))) h) : ∀ n t : Nat, t ≤ nT (mo h) → nT (mo h) - t = n → G E m_X12_unwanted d 0 0 Q h0 18 [some (vR MO), some (vI x), some (vI (orr (fun t => cif (0 < whyF (mo h) t x) ((1 : Int32) <<< (nI t &&& 31)) 0) t)), some (vI (nI t))] [] h 0 0 := by
  have hNw : h.1 MO 2 = nI (nW (mo h)) := hw.w.1
  have hNwb := hw.w.2
  have hC : h.1 MO 30 = nI (nC (mo h)) := hw.c.1
  have hCb := hw.c.2
  have hK : h.1 MO 3 = nI (nK (mo h)) := hw.k.1
  have hKb := hw.k.2
  have hT : h.1 MO 4 = nI (nT (mo h)) := hw.t.1
  have hTb := hw.t.2
  have hF : h.1 MO 5 = nI (nF (mo h)) := hw.f.1
  have hFb := hw.f.2
  have hRc : h.1 MO 59 = nI (nR (mo h)) := hw.r.1
  have hRb := hw.r.2
  have hG : h.1 MO 60 = nI (nGf (mo h)) := hw.g.1
  have hGb := hw.g.2
  have hA : h.1 MO 70 = nI (nA (mo h)) := hw.a.1
  have hAb := hw.a.2
  have hTl : h.1 MO 1 = nI (nTl (mo h)) := hw.tl.1
  have hTlb := hw.tl.2
  intro n
  induction n with
  | zero =>
    intro t h1 h2
    have hyb := whyF_le (mo h) t x
    refine g_iload_n (pc' := 19) dX12_unwanted_18 rfl rfl ?_
    refine g_aload_n (pc' := 20) dX12_unwanted_19 rfl rfl ?_
    refine g_getIv (v := nI (nT (mo h))) (pc' := 23) (k := 4) dX12_unwanted_20 rfl rfl ck_13 (by decide) fl_X12_211 rfl (hT) ?_
    refine g_icmp_geN (tgt := 51) (pc' := 26) dX12_unwanted_23 rfl (by decide) (by omega) (by omega) (fun c23 => ?_) (fun c23 => ?_)
    ·
      refine g_iload_n (pc' := 52) dX12_unwanted_51 rfl rfl ?_
      refine g_iret dX12_unwanted_52 rfl (by decide) (by decide) ?_
      have e : t = nT (mo h) := by omega
      subst e
      exact hQ
    · exact absurd c23 (by omega)
  | succ n ih =>
    intro t h1 h2
    have hyb := whyF_le (mo h) t x
    refine g_iload_n (pc' := 19) dX12_unwanted_18 rfl rfl ?_
    refine g_aload_n (pc' := 20) dX12_unwanted_19 rfl rfl ?_
    refine g_getIv (v := nI (nT (mo h))) (pc' := 23) (k := 4) dX12_unwanted_20 rfl rfl ck_13 (by decide) fl_X12_211 rfl (hT) ?_
    refine g_icmp_geN (tgt := 51) (pc' := 26) dX12_unwanted_23 rfl (by decide) (by omega) (by omega) (fun c23 => ?_) (fun c23 => ?_)
    · exact absurd c23 (by omega)
    ·
      refine g_iload_n (pc' := 27) dX12_unwanted_26 rfl rfl ?_
      refine g_aload_n (pc' := 28) dX12_unwanted_27 rfl rfl ?_
      refine g_iload_n (pc' := 29) dX12_unwanted_28 rfl rfl ?_
      refine g_iload_n (pc' := 30) dX12_unwanted_29 rfl rfl ?_
      refine g_invV (pc' := 33) (cm_whyOf hok hs hw (t := t) (by omega) _) dX12_unwanted_30 rfl rfl ck_13 rfl ml_X12_558 im_X12_whyOf sl_X12_whyOf in_X12 co_X12_whyOf pd_X12_whyOf rfl (by omega) (by decide) ⟨by decide, by decide⟩ (Nat.le_of_ble_eq_true rfl) ?_
      rintro _ _ ⟨rfl, rfl⟩ -
      refine g_if_leN (tgt := 42) (pc' := 36) dX12_unwanted_33 rfl (by decide) (by omega) (fun c33 => ?_) (fun c33 => ?_)
      ·
        refine g_iconst (v := 0) (pc' := 43) dX12_unwanted_42 rfl (by decide) ?_
        refine g_ior (pc' := 44) dX12_unwanted_43 rfl ?_
        refine g_istore_n (pc' := 45) dX12_unwanted_44 rfl (by decide) rfl ?_
        try simp only [List.set]
        refine g_iincN (k := 1) (pc' := 48) dX12_unwanted_45 rfl rfl (by decide) rfl ?_
        try simp only [List.set]
        refine g_goto (tgt := 18) dX12_unwanted_48 (by decide) ?_
        have q := ih (t + 1) (by omega) (by omega)
        rw [orr_s] at q
        simp only [cif_f (show ¬ 0 < whyF (mo h) t x by omega)] at q
        exact q
      ·
        refine g_iconst (v := 1) (pc' := 37) dX12_unwanted_36 rfl (by decide) ?_
        refine g_iload_n (pc' := 38) dX12_unwanted_37 rfl rfl ?_
        refine g_ishl (pc' := 39) dX12_unwanted_38 rfl ?_
        refine g_goto (tgt := 43) dX12_unwanted_39 (by decide) ?_
        refine g_ior (pc' := 44) dX12_unwanted_43 rfl ?_
        refine g_istore_n (pc' := 45) dX12_unwanted_44 rfl (by decide) rfl ?_
        try simp only [List.set]
        refine g_iincN (k := 1) (pc' := 48) dX12_unwanted_45 rfl rfl (by decide) rfl ?_
        try simp only [List.set]
        refine g_goto (tgt := 18) dX12_unwanted_48 (by decide) ?_
        have q := ih (t + 1) (by omega) (by omega)
        rw [orr_s] at q
        simp only [cif_t (show 0 < whyF (mo h) t x by omega)] at q
        exact q
noncomputable def sUnwanted (m : St) (x : Int32) : Int32 × St := cif ((1 ≤ x ∧ x ≤ 700)) (unwS m x, m) (-1, m)
set_option maxRecDepth 4000 in
theorem cm_unwanted {E : En} (hok : EOK E) {h : Hp} (hs : Shp h.2) (hw : Wf (mo h)) (x : Int32) : Call E m_X12_unwanted 4 0 0 [vR MO, vI x] h (fun r h' => r = some (vI (sUnwanted (mo h) x).1) ∧ mo h' = (sUnwanted (mo h) x).2 ∧ Mk h h') := by
  have hNw : h.1 MO 2 = nI (nW (mo h)) := hw.w.1
  have hNwb := hw.w.2
  have hC : h.1 MO 30 = nI (nC (mo h)) := hw.c.1
  have hCb := hw.c.2
  have hK : h.1 MO 3 = nI (nK (mo h)) := hw.k.1
  have hKb := hw.k.2
  have hT : h.1 MO 4 = nI (nT (mo h)) := hw.t.1
  have hTb := hw.t.2
  have hF : h.1 MO 5 = nI (nF (mo h)) := hw.f.1
  have hFb := hw.f.2
  have hRc : h.1 MO 59 = nI (nR (mo h)) := hw.r.1
  have hRb := hw.r.2
  have hG : h.1 MO 60 = nI (nGf (mo h)) := hw.g.1
  have hGb := hw.g.2
  have hA : h.1 MO 70 = nI (nA (mo h)) := hw.a.1
  have hAb := hw.a.2
  have hTl : h.1 MO 1 = nI (nTl (mo h)) := hw.tl.1
  have hTlb := hw.tl.2
  refine Call.enter hok (by decide) (Nat.le_of_ble_eq_true rfl) ?_
  show G E m_X12_unwanted 4 0 0 _ h 0 [some (vR MO), some (vI x), none, none] [] h 0 0
  refine g_iload_n (pc' := 1) dX12_unwanted_0 rfl rfl ?_
  refine g_i2l (pc' := 2) dX12_unwanted_1 rfl ?_
  refine g_lconst (v := 1) (pc' := 3) dX12_unwanted_2 rfl rfl ?_
  refine g_ldc2 (pc' := 6) dX12_unwanted_3 rfl kc_X12_556 ?_
  refine g_invS (pc' := 9) (c_liesI hok _ (1) (700) rfl (by decide) (by decide)) dX12_unwanted_6 rfl ml_X12_203 st_X12_lies in_X12 co_X12_lies pd_X12_lies rfl (by omega) (by decide) ⟨by decide, by decide⟩ (Nat.le_of_ble_eq_true rfl) ?_
  rintro _ _ ⟨rfl, rfl⟩ -
  refine g_ifB_ne (tgt := 14) (pc' := 12) dX12_unwanted_9 rfl (by decide) (fun c9 => ?_) (fun c9 => ?_)
  ·
    refine g_iconst (v := 0) (pc' := 15) dX12_unwanted_14 rfl (by decide) ?_
    refine g_istore_n (pc' := 16) dX12_unwanted_15 rfl (by decide) rfl ?_
    try simp only [List.set]
    refine g_iconstN (n := 0) (pc' := 17) dX12_unwanted_16 rfl ?_
    refine g_istore_n (pc' := 18) dX12_unwanted_17 rfl (by decide) rfl ?_
    try simp only [List.set]
    exact lm_unwanted hok hs hw x (Nat.le_refl _) (by rw [show sUnwanted (mo h) x = (unwS (mo h) x, mo h) from cif_t c9]; exact ⟨rfl, rfl, Mk.rf h⟩) _ 0 (Nat.zero_le _) rfl
  ·
    refine g_iconst (v := -1) (pc' := 13) dX12_unwanted_12 rfl (by decide) ?_
    refine g_iret dX12_unwanted_13 rfl (by decide) (by decide) ?_
    have e : sUnwanted (mo h) x = (-1, mo h) := by exact cif_f (by rintro z; contradiction)
    rw [e]
    exact ⟨rfl, rfl, Mk.rf h⟩
