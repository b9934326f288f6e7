noncomputable def sNow (m : St) (x : Int32) : Int32 × St := cif ((m 1 2 ≤ x ∧ x ≤ 699)) (1, stU m 1 2 x) (0, m)
set_option maxRecDepth 4000 in
theorem cm_now {E : En} (hok : EOK E) {h : Hp} (hs : Shp h.2) (hw : Wf (mo h)) (x : Int32) : Call E m_X12_now 1 0 0 [vR MO, vI x] h (fun r h' => r = some (vI (sNow (mo h) x).1) ∧ mo h' = (sNow (mo h) x).2 ∧ Mk h h') := by
  have hNw : h.1 MO 2 = nI (nW (mo h)) := hw.w.1
  have hNwb := hw.w.2
  have hC : h.1 MO 30 = nI (nC (mo h)) := hw.c.1
  have hCb := hw.c.2
  have hK : h.1 MO 3 = nI (nK (mo h)) := hw.k.1
  have hKb := hw.k.2
  have hT : h.1 MO 4 = nI (nT (mo h)) := hw.t.1
  have hTb := hw.t.2
  have hF : h.1 MO 5 = nI (nF (mo h)) := hw.f.1
  have hFb := hw.f.2
  have hRc : h.1 MO 59 = nI (nR (mo h)) := hw.r.1
  have hRb := hw.r.2
  have hG : h.1 MO 60 = nI (nGf (mo h)) := hw.g.1
  have hGb := hw.g.2
  have hA : h.1 MO 70 = nI (nA (mo h)) := hw.a.1
  have hAb := hw.a.2
  have hTl : h.1 MO 1 = nI (nTl (mo h)) := hw.tl.1
  have hTlb := hw.tl.2
  refine Call.enter hok (by decide) (Nat.le_of_ble_eq_true rfl) ?_
  show G E m_X12_now 1 0 0 _ h 0 [some (vR MO), some (vI x)] [] h 0 0
  refine g_iload_n (pc' := 1) dX12_now_0 rfl rfl ?_
  refine g_i2l (pc' := 2) dX12_now_1 rfl ?_
  refine g_aload_n (pc' := 3) dX12_now_2 rfl rfl ?_
  refine g_getI (pc' := 6) (k := 2) dX12_now_3 rfl rfl ck_13 (by decide) fl_X12_219 rfl ?_
  refine g_i2l (pc' := 7) dX12_now_6 rfl ?_
  refine g_ldc2 (pc' := 10) dX12_now_7 rfl kc_X12_201 ?_
  refine g_invS (pc' := 13) (c_liesI hok _ _ (699) rfl rfl (by decide)) dX12_now_10 rfl ml_X12_203 st_X12_lies in_X12 co_X12_lies pd_X12_lies rfl (by omega) (by decide) ⟨by decide, by decide⟩ (Nat.le_of_ble_eq_true rfl) ?_
  rintro _ _ ⟨rfl, rfl⟩ -
  refine g_ifB_ne (tgt := 18) (pc' := 16) dX12_now_13 rfl (by decide) (fun c13 => ?_) (fun c13 => ?_)
  ·
    refine g_aload_n (pc' := 19) dX12_now_18 rfl rfl ?_
    refine g_iload_n (pc' := 20) dX12_now_19 rfl rfl ?_
    refine g_putI (pc' := 23) (k := 2) dX12_now_20 rfl rfl ck_13 (by decide) fl_X12_219 rfl rfl rfl rfl ?_
    refine g_iconstN (n := 1) (pc' := 24) dX12_now_23 rfl ?_
    refine g_zret dX12_now_24 rfl (by rfl) (by decide) (by decide) ?_
    have e : sNow (mo h) x = (1, stU (mo h) 1 2 x) := by exact cif_t (by assumption)
    rw [e]
    exact ⟨rfl, mo_wF rfl, (Mk.rf h).w (Or.inl rfl)⟩
  ·
    refine g_iconstN (n := 0) (pc' := 17) dX12_now_16 rfl ?_
    refine g_zret dX12_now_17 rfl (by rfl) (by decide) (by decide) ?_
    have e : sNow (mo h) x = (0, mo h) := by exact cif_f (by rintro z; contradiction)
    rw [e]
    exact ⟨rfl, rfl, Mk.rf h⟩
noncomputable def sBag (m : St) (x : Int32) : Int32 × St := cif ((0 ≤ x ∧ x ≤ 2000)) (1, stU m 1 6 x) (0, m)
set_option maxRecDepth 4000 in
theorem cm_bag {E : En} (hok : EOK E) {h : Hp} (hs : Shp h.2) (hw : Wf (mo h)) (x : Int32) : Call E m_X12_bag 1 0 0 [vR MO, vI x] h (fun r h' => r = some (vI (sBag (mo h) x).1) ∧ mo h' = (sBag (mo h) x).2 ∧ Mk h h') := by
  have hNw : h.1 MO 2 = nI (nW (mo h)) := hw.w.1
  have hNwb := hw.w.2
  have hC : h.1 MO 30 = nI (nC (mo h)) := hw.c.1
  have hCb := hw.c.2
  have hK : h.1 MO 3 = nI (nK (mo h)) := hw.k.1
  have hKb := hw.k.2
  have hT : h.1 MO 4 = nI (nT (mo h)) := hw.t.1
  have hTb := hw.t.2
  have hF : h.1 MO 5 = nI (nF (mo h)) := hw.f.1
  have hFb := hw.f.2
  have hRc : h.1 MO 59 = nI (nR (mo h)) := hw.r.1
  have hRb := hw.r.2
  have hG : h.1 MO 60 = nI (nGf (mo h)) := hw.g.1
  have hGb := hw.g.2
  have hA : h.1 MO 70 = nI (nA (mo h)) := hw.a.1
  have hAb := hw.a.2
  have hTl : h.1 MO 1 = nI (nTl (mo h)) := hw.tl.1
  have hTlb := hw.tl.2
  refine Call.enter hok (by decide) (Nat.le_of_ble_eq_true rfl) ?_
  show G E m_X12_bag 1 0 0 _ h 0 [some (vR MO), some (vI x)] [] h 0 0
  refine g_iload_n (pc' := 1) dX12_bag_0 rfl rfl ?_
  refine g_i2l (pc' := 2) dX12_bag_1 rfl ?_
  refine g_lconst (v := 0) (pc' := 3) dX12_bag_2 rfl rfl ?_
  refine g_ldc2 (pc' := 6) dX12_bag_3 rfl kc_X12_245 ?_
  refine g_invS (pc' := 9) (c_liesI hok _ (0) (2000) rfl (by decide) (by decide)) dX12_bag_6 rfl ml_X12_203 st_X12_lies in_X12 co_X12_lies pd_X12_lies rfl (by omega) (by decide) ⟨by decide, by decide⟩ (Nat.le_of_ble_eq_true rfl) ?_
  rintro _ _ ⟨rfl, rfl⟩ -
  refine g_ifB_ne (tgt := 14) (pc' := 12) dX12_bag_9 rfl (by decide) (fun c9 => ?_) (fun c9 => ?_)
  ·
    refine g_aload_n (pc' := 15) dX12_bag_14 rfl rfl ?_
    refine g_iload_n (pc' := 16) dX12_bag_15 rfl rfl ?_
    refine g_putI (pc' := 19) (k := 6) dX12_bag_16 rfl rfl ck_13 (by decide) fl_X12_247 rfl rfl rfl rfl ?_
    refine g_iconstN (n := 1) (pc' := 20) dX12_bag_19 rfl ?_
    refine g_zret dX12_bag_20 rfl (by rfl) (by decide) (by decide) ?_
    have e : sBag (mo h) x = (1, stU (mo h) 1 6 x) := by exact cif_t (by assumption)
    rw [e]
    exact ⟨rfl, mo_wF rfl, (Mk.rf h).w (Or.inl rfl)⟩
  ·
    refine g_iconstN (n := 0) (pc' := 13) dX12_bag_12 rfl ?_
    refine g_zret dX12_bag_13 rfl (by rfl) (by decide) (by decide) ?_
    have e : sBag (mo h) x = (0, mo h) := by exact cif_f (by rintro z; contradiction)
    rw [e]
    exact ⟨rfl, rfl, Mk.rf h⟩
noncomputable def sTelling (m : St) (x : Int32) : Int32 × St := cif ((0 ≤ x ∧ x ≤ 30)) (1, stU m 1 7 x) (0, m)
set_option maxRecDepth 4000 in
theorem cm_telling {E : En} (hok : EOK E) {h : Hp} (hs : Shp h.2) (hw : Wf (mo h)) (x : Int32) : Call E m_X12_telling 1 0 0 [vR MO, vI x] h (fun r h' => r = some (vI (sTelling (mo h) x).1) ∧ mo h' = (sTelling (mo h) x).2 ∧ Mk h h') := by
  have hNw : h.1 MO 2 = nI (nW (mo h)) := hw.w.1
  have hNwb := hw.w.2
  have hC : h.1 MO 30 = nI (nC (mo h)) := hw.c.1
  have hCb := hw.c.2
  have hK : h.1 MO 3 = nI (nK (mo h)) := hw.k.1
  have hKb := hw.k.2
  have hT : h.1 MO 4 = nI (nT (mo h)) := hw.t.1
  have hTb := hw.t.2
  have hF : h.1 MO 5 = nI (nF (mo h)) := hw.f.1
  have hFb := hw.f.2
  have hRc : h.1 MO 59 = nI (nR (mo h)) := hw.r.1
  have hRb := hw.r.2
  have hG : h.1 MO 60 = nI (nGf (mo h)) := hw.g.1
  have hGb := hw.g.2
  have hA : h.1 MO 70 = nI (nA (mo h)) := hw.a.1
  have hAb := hw.a.2
  have hTl : h.1 MO 1 = nI (nTl (mo h)) := hw.tl.1
  have hTlb := hw.tl.2
  refine Call.enter hok (by decide) (Nat.le_of_ble_eq_true rfl) ?_
  show G E m_X12_telling 1 0 0 _ h 0 [some (vR MO), some (vI x)] [] h 0 0
  refine g_iload_n (pc' := 1) dX12_telling_0 rfl rfl ?_
  refine g_i2l (pc' := 2) dX12_telling_1 rfl ?_
  refine g_lconst (v := 0) (pc' := 3) dX12_telling_2 rfl rfl ?_
  refine g_ldc2 (pc' := 6) dX12_telling_3 rfl kc_X12_250 ?_
  refine g_invS (pc' := 9) (c_liesI hok _ (0) (30) rfl (by decide) (by decide)) dX12_telling_6 rfl ml_X12_203 st_X12_lies in_X12 co_X12_lies pd_X12_lies rfl (by omega) (by decide) ⟨by decide, by decide⟩ (Nat.le_of_ble_eq_true rfl) ?_
  rintro _ _ ⟨rfl, rfl⟩ -
  refine g_ifB_ne (tgt := 14) (pc' := 12) dX12_telling_9 rfl (by decide) (fun c9 => ?_) (fun c9 => ?_)
  ·
    refine g_aload_n (pc' := 15) dX12_telling_14 rfl rfl ?_
    refine g_iload_n (pc' := 16) dX12_telling_15 rfl rfl ?_
    refine g_putI (pc' := 19) (k := 7) dX12_telling_16 rfl rfl ck_13 (by decide) fl_X12_252 rfl rfl rfl rfl ?_
    refine g_iconstN (n := 1) (pc' := 20) dX12_telling_19 rfl ?_
    refine g_zret dX12_telling_20 rfl (by rfl) (by decide) (by decide) ?_
    have e : sTelling (mo h) x = (1, stU (mo h) 1 7 x) := by exact cif_t (by assumption)
    rw [e]
    exact ⟨rfl, mo_wF rfl, (Mk.rf h).w (Or.inl rfl)⟩
  ·
    refine g_iconstN (n := 0) (pc' := 13) dX12_telling_12 rfl ?_
    refine g_zret dX12_telling_13 rfl (by rfl) (by decide) (by decide) ?_
    have e : sTelling (mo h) x = (0, mo h) := by exact cif_f (by rintro z; contradiction)
    rw [e]
    exact ⟨rfl, rfl, Mk.rf h⟩
theorem sort_iff {x : Int32} : (0 ≤ x ∧ x ≤ 5) ↔ ∃ j : Nat, j < 6 ∧ x = nI j := by
  have := inN_iff (x := x) (n := 6) (by decide)
  rwa [show nI 6 - nI 1 = 5 from rfl] at this
theorem vp_of {x : Int32} {n : Nat} (q : ∃ j : Nat, j < n ∧ x = nI j) (hn : n < 1000) : vp_in x n := by
  obtain ⟨j, hj, rfl⟩ := q
  exact vp_in_nI hj (by omega)
theorem vp_up {x : Int32} {n N : Nat} (q : ∃ j : Nat, j < n ∧ x = nI j) (hn : n ≤ N) (hN : N < 1000) : vp_in x N := by
  obtain ⟨j, hj, rfl⟩ := q
  exact vp_in_nI (by omega) (by omega)
noncomputable def sMinutes (m : St) (x : Int32) (n : Int32) : Int32 × St := cif ((0 ≤ x ∧ x ≤ 5) ∧ (0 ≤ n ∧ n ≤ 600)) (1, stU m 191 x.toNatClampNeg n) (0, m)
set_option maxRecDepth 4000 in
theorem cm_minutes {E : En} (hok : EOK E) {h : Hp} (hs : Shp h.2) (hw : Wf (mo h)) (x : Int32) (n : Int32) : Call E m_X12_minutes 2 0 0 [vR MO, vI x, vI n] h (fun r h' => r = some (vI (sMinutes (mo h) x n).1) ∧ mo h' = (sMinutes (mo h) x n).2 ∧ Mk h h') := by
  have hNw : h.1 MO 2 = nI (nW (mo h)) := hw.w.1
  have hNwb := hw.w.2
  have hC : h.1 MO 30 = nI (nC (mo h)) := hw.c.1
  have hCb := hw.c.2
  have hK : h.1 MO 3 = nI (nK (mo h)) := hw.k.1
  have hKb := hw.k.2
  have hT : h.1 MO 4 = nI (nT (mo h)) := hw.t.1
  have hTb := hw.t.2
  have hF : h.1 MO 5 = nI (nF (mo h)) := hw.f.1
  have hFb := hw.f.2
  have hRc : h.1 MO 59 = nI (nR (mo h)) := hw.r.1
  have hRb := hw.r.2
  have hG : h.1 MO 60 = nI (nGf (mo h)) := hw.g.1
  have hGb := hw.g.2
  have hA : h.1 MO 70 = nI (nA (mo h)) := hw.a.1
  have hAb := hw.a.2
  have hTl : h.1 MO 1 = nI (nTl (mo h)) := hw.tl.1
  have hTlb := hw.tl.2
  refine Call.enter hok (by decide) (Nat.le_of_ble_eq_true rfl) ?_
  show G E m_X12_minutes 2 0 0 _ h 0 [some (vR MO), some (vI x), some (vI n)] [] h 0 0
  refine g_iload_n (pc' := 1) dX12_minutes_0 rfl rfl ?_
  refine g_invS (pc' := 4) (cm_isSort hok _) dX12_minutes_1 rfl ml_X12_234 st_X12_isSort in_X12 co_X12_isSort pd_X12_isSort rfl (by omega) (by decide) ⟨by decide, by decide⟩ (Nat.le_of_ble_eq_true rfl) ?_
  rintro _ _ ⟨rfl, rfl⟩ -
  refine g_ifB_eq (tgt := 19) (pc' := 7) dX12_minutes_4 rfl (by decide) (fun c4 => ?_) (fun c4 => ?_)
  ·
    refine g_iconstN (n := 0) (pc' := 20) dX12_minutes_19 rfl ?_
    refine g_zret dX12_minutes_20 rfl (by rfl) (by decide) (by decide) ?_
    have e : sMinutes (mo h) x n = (0, mo h) := by exact cif_f (by rintro ⟨z0, z1⟩; contradiction)
    rw [e]
    exact ⟨rfl, rfl, Mk.rf h⟩
  ·
    refine g_iload_n (pc' := 8) dX12_minutes_7 rfl rfl ?_
    refine g_i2l (pc' := 9) dX12_minutes_8 rfl ?_
    refine g_lconst (v := 0) (pc' := 10) dX12_minutes_9 rfl rfl ?_
    refine g_ldc2 (pc' := 13) dX12_minutes_10 rfl kc_X12_537 ?_
    refine g_invS (pc' := 16) (c_liesI hok _ (0) (600) rfl (by decide) (by decide)) dX12_minutes_13 rfl ml_X12_203 st_X12_lies in_X12 co_X12_lies pd_X12_lies rfl (by omega) (by decide) ⟨by decide, by decide⟩ (Nat.le_of_ble_eq_true rfl) ?_
    rintro _ _ ⟨rfl, rfl⟩ -
    refine g_ifB_ne (tgt := 21) (pc' := 19) dX12_minutes_16 rfl (by decide) (fun c16 => ?_) (fun c16 => ?_)
    ·
      refine g_aload_n (pc' := 22) dX12_minutes_21 rfl rfl ?_
      refine g_getS (pc' := 25) (k := 91) (b := (191, 0)) dX12_minutes_22 rfl rfl ck_13 (by decide) fl_X12_198 rfl hs rfl ?_
      refine g_iload_n (pc' := 26) dX12_minutes_25 rfl rfl ?_
      refine g_iload_n (pc' := 27) dX12_minutes_26 rfl rfl ?_
      refine g_iast (pc' := 28) dX12_minutes_27 rfl rfl (vp_of (sort_iff.mp c4) (by decide)) ?_
      refine g_iconstN (n := 1) (pc' := 29) dX12_minutes_28 rfl ?_
      refine g_zret dX12_minutes_29 rfl (by rfl) (by decide) (by decide) ?_
      have e : sMinutes (mo h) x n = (1, stU (mo h) 191 x.toNatClampNeg n) := by exact cif_t ⟨by assumption, by assumption⟩
      rw [e]
      exact ⟨rfl, mo_wI rfl, (Mk.rf h).w (Or.inr (by decide))⟩
    ·
      refine g_iconstN (n := 0) (pc' := 20) dX12_minutes_19 rfl ?_
      refine g_zret dX12_minutes_20 rfl (by rfl) (by decide) (by decide) ?_
      have e : sMinutes (mo h) x n = (0, mo h) := by exact cif_f (by rintro ⟨z0, z1⟩; contradiction)
      rw [e]
      exact ⟨rfl, rfl, Mk.rf h⟩
noncomputable def sCull (m : St) (x : Int32) : Int32 × St := cif ((∃ j : Nat, j < nT m ∧ x = nI j) ∧ (m 118 x.toNatClampNeg = 0)) (1, stU m 118 x.toNatClampNeg 3) (0, m)
set_option maxRecDepth 4000 in
theorem cm_cull {E : En} (hok : EOK E) {h : Hp} (hs : Shp h.2) (hw : Wf (mo h)) (x : Int32) : Call E m_X12_cull 2 0 0 [vR MO, vI x] h (fun r h' => r = some (vI (sCull (mo h) x).1) ∧ mo h' = (sCull (mo h) x).2 ∧ Mk h h') := by
  have hNw : h.1 MO 2 = nI (nW (mo h)) := hw.w.1
  have hNwb := hw.w.2
  have hC : h.1 MO 30 = nI (nC (mo h)) := hw.c.1
  have hCb := hw.c.2
  have hK : h.1 MO 3 = nI (nK (mo h)) := hw.k.1
  have hKb := hw.k.2
  have hT : h.1 MO 4 = nI (nT (mo h)) := hw.t.1
  have hTb := hw.t.2
  have hF : h.1 MO 5 = nI (nF (mo h)) := hw.f.1
  have hFb := hw.f.2
  have hRc : h.1 MO 59 = nI (nR (mo h)) := hw.r.1
  have hRb := hw.r.2
  have hG : h.1 MO 60 = nI (nGf (mo h)) := hw.g.1
  have hGb := hw.g.2
  have hA : h.1 MO 70 = nI (nA (mo h)) := hw.a.1
  have hAb := hw.a.2
  have hTl : h.1 MO 1 = nI (nTl (mo h)) := hw.tl.1
  have hTlb := hw.tl.2
  refine Call.enter hok (by decide) (Nat.le_of_ble_eq_true rfl) ?_
  show G E m_X12_cull 2 0 0 _ h 0 [some (vR MO), some (vI x)] [] h 0 0
  refine g_aload_n (pc' := 1) dX12_cull_0 rfl rfl ?_
  refine g_iload_n (pc' := 2) dX12_cull_1 rfl rfl ?_
  refine g_invV (pc' := 5) (cm_isToy hok hw _) dX12_cull_2 rfl rfl ck_13 rfl ml_X12_443 im_X12_isToy sl_X12_isToy in_X12 co_X12_isToy pd_X12_isToy rfl (by omega) (by decide) ⟨by decide, by decide⟩ (Nat.le_of_ble_eq_true rfl) ?_
  rintro _ _ ⟨rfl, rfl⟩ -
  refine g_ifB_eq (tgt := 17) (pc' := 8) dX12_cull_5 rfl (by decide) (fun c5 => ?_) (fun c5 => ?_)
  ·
    refine g_iconstN (n := 0) (pc' := 18) dX12_cull_17 rfl ?_
    refine g_zret dX12_cull_18 rfl (by rfl) (by decide) (by decide) ?_
    have e : sCull (mo h) x = (0, mo h) := by exact cif_f (by rintro ⟨z0, z1⟩; contradiction)
    rw [e]
    exact ⟨rfl, rfl, Mk.rf h⟩
  ·
    have k5 := c5
    obtain ⟨t, ht, rfl⟩ := k5
    refine g_aload_n (pc' := 9) dX12_cull_8 rfl rfl ?_
    refine g_getS (pc' := 12) (k := 18) (b := (118, 0)) dX12_cull_9 rfl rfl ck_13 (by decide) fl_X12_44 rfl hs rfl ?_
    refine g_iload_n (pc' := 13) dX12_cull_12 rfl rfl ?_
    refine g_ialdN (pc' := 14) (v := _) dX12_cull_13 rfl rfl (by decide) (by omega) (rfl) ?_
    refine g_if_eq (tgt := 19) (pc' := 17) dX12_cull_14 rfl (by decide) (fun c14 => ?_) (fun c14 => ?_)
    ·
      refine g_aload_n (pc' := 20) dX12_cull_19 rfl rfl ?_
      refine g_getS (pc' := 23) (k := 18) (b := (118, 0)) dX12_cull_20 rfl rfl ck_13 (by decide) fl_X12_44 rfl hs rfl ?_
      refine g_iload_n (pc' := 24) dX12_cull_23 rfl rfl ?_
      refine g_iconstN (n := 3) (pc' := 25) dX12_cull_24 rfl ?_
      refine g_iastN (pc' := 26) dX12_cull_25 rfl rfl (by decide) (by omega) ?_
      refine g_iconstN (n := 1) (pc' := 27) dX12_cull_26 rfl ?_
      refine g_zret dX12_cull_27 rfl (by rfl) (by decide) (by decide) ?_
      have e : sCull (mo h) (nI t) = (1, stU (mo h) 118 t 3) := by unfold sCull; simp only [nI_clamp (show t < 2 ^ 31 by omega)]; exact cif_t ⟨by assumption, by assumption⟩
      rw [e]
      exact ⟨rfl, mo_wI rfl, (Mk.rf h).w (Or.inr (by decide))⟩
    ·
      refine g_iconstN (n := 0) (pc' := 18) dX12_cull_17 rfl ?_
      refine g_zret dX12_cull_18 rfl (by rfl) (by decide) (by decide) ?_
      have e : sCull (mo h) (nI t) = (0, mo h) := by unfold sCull; simp only [nI_clamp (show t < 2 ^ 31 by omega)]; exact cif_f (by rintro ⟨z0, z1⟩; contradiction)
      rw [e]
      exact ⟨rfl, rfl, Mk.rf h⟩
noncomputable def sWash (m : St) (x : Int32) : Int32 × St := cif ((∃ j : Nat, j < nT m ∧ x = nI j) ∧ (¬ m 124 x.toNatClampNeg = 0)) (1, stU m 124 x.toNatClampNeg 0) (0, m)
set_option maxRecDepth 4000 in
theorem cm_wash {E : En} (hok : EOK E) {h : Hp} (hs : Shp h.2) (hw : Wf (mo h)) (x : Int32) : Call E m_X12_wash 2 0 0 [vR MO, vI x] h (fun r h' => r = some (vI (sWash (mo h) x).1) ∧ mo h' = (sWash (mo h) x).2 ∧ Mk h h') := by
  have hNw : h.1 MO 2 = nI (nW (mo h)) := hw.w.1
  have hNwb := hw.w.2
  have hC : h.1 MO 30 = nI (nC (mo h)) := hw.c.1
  have hCb := hw.c.2
  have hK : h.1 MO 3 = nI (nK (mo h)) := hw.k.1
  have hKb := hw.k.2
  have hT : h.1 MO 4 = nI (nT (mo h)) := hw.t.1
  have hTb := hw.t.2
  have hF : h.1 MO 5 = nI (nF (mo h)) := hw.f.1
  have hFb := hw.f.2
  have hRc : h.1 MO 59 = nI (nR (mo h)) := hw.r.1
  have hRb := hw.r.2
  have hG : h.1 MO 60 = nI (nGf (mo h)) := hw.g.1
  have hGb := hw.g.2
  have hA : h.1 MO 70 = nI (nA (mo h)) := hw.a.1
  have hAb := hw.a.2
  have hTl : h.1 MO 1 = nI (nTl (mo h)) := hw.tl.1
  have hTlb := hw.tl.2
  refine Call.enter hok (by decide) (Nat.le_of_ble_eq_true rfl) ?_
  show G E m_X12_wash 2 0 0 _ h 0 [some (vR MO), some (vI x)] [] h 0 0
  refine g_aload_n (pc' := 1) dX12_wash_0 rfl rfl ?_
  refine g_iload_n (pc' := 2) dX12_wash_1 rfl rfl ?_
  refine g_invV (pc' := 5) (cm_isToy hok hw _) dX12_wash_2 rfl rfl ck_13 rfl ml_X12_443 im_X12_isToy sl_X12_isToy in_X12 co_X12_isToy pd_X12_isToy rfl (by omega) (by decide) ⟨by decide, by decide⟩ (Nat.le_of_ble_eq_true rfl) ?_
  rintro _ _ ⟨rfl, rfl⟩ -
  refine g_ifB_eq (tgt := 17) (pc' := 8) dX12_wash_5 rfl (by decide) (fun c5 => ?_) (fun c5 => ?_)
  ·
    refine g_iconstN (n := 0) (pc' := 18) dX12_wash_17 rfl ?_
    refine g_zret dX12_wash_18 rfl (by rfl) (by decide) (by decide) ?_
    have e : sWash (mo h) x = (0, mo h) := by exact cif_f (by rintro ⟨z0, z1⟩; contradiction)
    rw [e]
    exact ⟨rfl, rfl, Mk.rf h⟩
  ·
    have k5 := c5
    obtain ⟨t, ht, rfl⟩ := k5
    refine g_aload_n (pc' := 9) dX12_wash_8 rfl rfl ?_
    refine g_getS (pc' := 12) (k := 24) (b := (124, 0)) dX12_wash_9 rfl rfl ck_13 (by decide) fl_X12_62 rfl hs rfl ?_
    refine g_iload_n (pc' := 13) dX12_wash_12 rfl rfl ?_
    refine g_zaldN (pc' := 14) (v := _) dX12_wash_13 rfl rfl (by decide) (by omega) (rfl) ?_
    refine g_if_ne (tgt := 19) (pc' := 17) dX12_wash_14 rfl (by decide) (fun c14 => ?_) (fun c14 => ?_)
    ·
      refine g_aload_n (pc' := 20) dX12_wash_19 rfl rfl ?_
      refine g_getS (pc' := 23) (k := 24) (b := (124, 0)) dX12_wash_20 rfl rfl ck_13 (by decide) fl_X12_62 rfl hs rfl ?_
      refine g_iload_n (pc' := 24) dX12_wash_23 rfl rfl ?_
      refine g_iconstN (n := 0) (pc' := 25) dX12_wash_24 rfl ?_
      refine g_zastN (pc' := 26) dX12_wash_25 rfl rfl (by decide) (by omega) ?_
      refine g_iconstN (n := 1) (pc' := 27) dX12_wash_26 rfl ?_
      refine g_zret dX12_wash_27 rfl (by rfl) (by decide) (by decide) ?_
      have e : sWash (mo h) (nI t) = (1, stU (mo h) 124 t 0) := by unfold sWash; simp only [nI_clamp (show t < 2 ^ 31 by omega)]; exact cif_t ⟨by assumption, by assumption⟩
      rw [e]
      exact ⟨rfl, mo_wI rfl, (Mk.rf h).w (Or.inr (by decide))⟩
    ·
      refine g_iconstN (n := 0) (pc' := 18) dX12_wash_17 rfl ?_
      refine g_zret dX12_wash_18 rfl (by rfl) (by decide) (by decide) ?_
      have e : sWash (mo h) (nI t) = (0, mo h) := by unfold sWash; simp only [nI_clamp (show t < 2 ^ 31 by omega)]; exact cif_f (by rintro ⟨z0, z1⟩; contradiction)
      rw [e]
      exact ⟨rfl, rfl, Mk.rf h⟩
noncomputable def sOwes (m : St) (x : Int32) : Int32 × St := cif ((∃ j : Nat, j < nF m ∧ x = nI j)) (m 129 x.toNatClampNeg, m) (-1, m)
set_option maxRecDepth 4000 in
theorem cm_owes {E : En} (hok : EOK E) {h : Hp} (hs : Shp h.2) (hw : Wf (mo h)) (x : Int32) : Call E m_X12_owes 2 0 0 [vR MO, vI x] h (fun r h' => r = some (vI (sOwes (mo h) x).1) ∧ mo h' = (sOwes (mo h) x).2 ∧ Mk h h') := by
  have hNw : h.1 MO 2 = nI (nW (mo h)) := hw.w.1
  have hNwb := hw.w.2
  have hC : h.1 MO 30 = nI (nC (mo h)) := hw.c.1
  have hCb := hw.c.2
  have hK : h.1 MO 3 = nI (nK (mo h)) := hw.k.1
  have hKb := hw.k.2
  have hT : h.1 MO 4 = nI (nT (mo h)) := hw.t.1
  have hTb := hw.t.2
  have hF : h.1 MO 5 = nI (nF (mo h)) := hw.f.1
  have hFb := hw.f.2
  have hRc : h.1 MO 59 = nI (nR (mo h)) := hw.r.1
  have hRb := hw.r.2
  have hG : h.1 MO 60 = nI (nGf (mo h)) := hw.g.1
  have hGb := hw.g.2
  have hA : h.1 MO 70 = nI (nA (mo h)) := hw.a.1
  have hAb := hw.a.2
  have hTl : h.1 MO 1 = nI (nTl (mo h)) := hw.tl.1
  have hTlb := hw.tl.2
  refine Call.enter hok (by decide) (Nat.le_of_ble_eq_true rfl) ?_
  show G E m_X12_owes 2 0 0 _ h 0 [some (vR MO), some (vI x)] [] h 0 0
  refine g_aload_n (pc' := 1) dX12_owes_0 rfl rfl ?_
  refine g_iload_n (pc' := 2) dX12_owes_1 rfl rfl ?_
  refine g_invV (pc' := 5) (cm_isFamily hok hw _) dX12_owes_2 rfl rfl ck_13 rfl ml_X12_435 im_X12_isFamily sl_X12_isFamily in_X12 co_X12_isFamily pd_X12_isFamily rfl (by omega) (by decide) ⟨by decide, by decide⟩ (Nat.le_of_ble_eq_true rfl) ?_
  rintro _ _ ⟨rfl, rfl⟩ -
  refine g_ifB_eq (tgt := 17) (pc' := 8) dX12_owes_5 rfl (by decide) (fun c5 => ?_) (fun c5 => ?_)
  ·
    refine g_iconst (v := -1) (pc' := 18) dX12_owes_17 rfl (by decide) ?_
    refine g_iret dX12_owes_18 rfl (by decide) (by decide) ?_
    have e : sOwes (mo h) x = (-1, mo h) := by exact cif_f (by rintro z; contradiction)
    rw [e]
    exact ⟨rfl, rfl, Mk.rf h⟩
  ·
    have k5 := c5
    obtain ⟨f, hf, rfl⟩ := k5
    refine g_aload_n (pc' := 9) dX12_owes_8 rfl rfl ?_
    refine g_getS (pc' := 12) (k := 29) (b := (129, 0)) dX12_owes_9 rfl rfl ck_13 (by decide) fl_X12_78 rfl hs rfl ?_
    refine g_iload_n (pc' := 13) dX12_owes_12 rfl rfl ?_
    refine g_ialdN (pc' := 14) (v := _) dX12_owes_13 rfl rfl (by decide) (by omega) (rfl) ?_
    refine g_goto (tgt := 18) dX12_owes_14 (by decide) ?_
    refine g_iret dX12_owes_18 rfl (by decide) (by decide) ?_
    have e : sOwes (mo h) (nI f) = ((mo h) 129 f, (mo h)) := by unfold sOwes; simp only [nI_clamp (show f < 2 ^ 31 by omega)]; exact cif_t (by assumption)
    rw [e]
    exact ⟨rfl, rfl, Mk.rf h⟩
noncomputable def sPays (m : St) (x : Int32) (n : Int32) : Int32 × St := cif ((∃ j : Nat, j < nF m ∧ x = nI j) ∧ (1 ≤ n ∧ n ≤ m 129 x.toNatClampNeg)) (m 129 x.toNatClampNeg - n, stU m 129 x.toNatClampNeg (m 129 x.toNatClampNeg - n)) (-1, m)
set_option maxRecDepth 4000 in
theorem cm_pays {E : En} (hok : EOK E) {h : Hp} (hs : Shp h.2) (hw : Wf (mo h)) (x : Int32) (n : Int32) : Call E m_X12_pays 2 0 0 [vR MO, vI x, vI n] h (fun r h' => r = some (vI (sPays (mo h) x n).1) ∧ mo h' = (sPays (mo h) x n).2 ∧ Mk h h') := by
  have hNw : h.1 MO 2 = nI (nW (mo h)) := hw.w.1
  have hNwb := hw.w.2
  have hC : h.1 MO 30 = nI (nC (mo h)) := hw.c.1
  have hCb := hw.c.2
  have hK : h.1 MO 3 = nI (nK (mo h)) := hw.k.1
  have hKb := hw.k.2
  have hT : h.1 MO 4 = nI (nT (mo h)) := hw.t.1
  have hTb := hw.t.2
  have hF : h.1 MO 5 = nI (nF (mo h)) := hw.f.1
  have hFb := hw.f.2
  have hRc : h.1 MO 59 = nI (nR (mo h)) := hw.r.1
  have hRb := hw.r.2
  have hG : h.1 MO 60 = nI (nGf (mo h)) := hw.g.1
  have hGb := hw.g.2
  have hA : h.1 MO 70 = nI (nA (mo h)) := hw.a.1
  have hAb := hw.a.2
  have hTl : h.1 MO 1 = nI (nTl (mo h)) := hw.tl.1
  have hTlb := hw.tl.2
  refine Call.enter hok (by decide) (Nat.le_of_ble_eq_true rfl) ?_
  show G E m_X12_pays 2 0 0 _ h 0 [some (vR MO), some (vI x), some (vI n)] [] h 0 0
  refine g_aload_n (pc' := 1) dX12_pays_0 rfl rfl ?_
  refine g_iload_n (pc' := 2) dX12_pays_1 rfl rfl ?_
  refine g_invV (pc' := 5) (cm_isFamily hok hw _) dX12_pays_2 rfl rfl ck_13 rfl ml_X12_435 im_X12_isFamily sl_X12_isFamily in_X12 co_X12_isFamily pd_X12_isFamily rfl (by omega) (by decide) ⟨by decide, by decide⟩ (Nat.le_of_ble_eq_true rfl) ?_
  rintro _ _ ⟨rfl, rfl⟩ -
  refine g_ifB_eq (tgt := 24) (pc' := 8) dX12_pays_5 rfl (by decide) (fun c5 => ?_) (fun c5 => ?_)
  ·
    refine g_iconst (v := -1) (pc' := 25) dX12_pays_24 rfl (by decide) ?_
    refine g_iret dX12_pays_25 rfl (by decide) (by decide) ?_
    have e : sPays (mo h) x n = (-1, mo h) := by exact cif_f (by rintro ⟨z0, z1⟩; contradiction)
    rw [e]
    exact ⟨rfl, rfl, Mk.rf h⟩
  ·
    have k5 := c5
    obtain ⟨f, hf, rfl⟩ := k5
    refine g_iload_n (pc' := 9) dX12_pays_8 rfl rfl ?_
    refine g_i2l (pc' := 10) dX12_pays_9 rfl ?_
    refine g_lconst (v := 1) (pc' := 11) dX12_pays_10 rfl rfl ?_
    refine g_aload_n (pc' := 12) dX12_pays_11 rfl rfl ?_
    refine g_getS (pc' := 15) (k := 29) (b := (129, 0)) dX12_pays_12 rfl rfl ck_13 (by decide) fl_X12_78 rfl hs rfl ?_
    refine g_iload_n (pc' := 16) dX12_pays_15 rfl rfl ?_
    refine g_ialdN (pc' := 17) (v := _) dX12_pays_16 rfl rfl (by decide) (by omega) (rfl) ?_
    refine g_i2l (pc' := 18) dX12_pays_17 rfl ?_
    refine g_invS (pc' := 21) (c_liesI hok _ (1) _ rfl (by decide) rfl) dX12_pays_18 rfl ml_X12_203 st_X12_lies in_X12 co_X12_lies pd_X12_lies rfl (by omega) (by decide) ⟨by decide, by decide⟩ (Nat.le_of_ble_eq_true rfl) ?_
    rintro _ _ ⟨rfl, rfl⟩ -
    refine g_ifB_ne (tgt := 26) (pc' := 24) dX12_pays_21 rfl (by decide) (fun c21 => ?_) (fun c21 => ?_)
    ·
      refine g_aload_n (pc' := 27) dX12_pays_26 rfl rfl ?_
      refine g_getS (pc' := 30) (k := 29) (b := (129, 0)) dX12_pays_27 rfl rfl ck_13 (by decide) fl_X12_78 rfl hs rfl ?_
      refine g_iload_n (pc' := 31) dX12_pays_30 rfl rfl ?_
      refine g_dup2 (pc' := 32) dX12_pays_31 rfl rfl rfl ?_
      refine g_ialdN (pc' := 33) (v := _) dX12_pays_32 rfl rfl (by decide) (by omega) (rfl) ?_
      refine g_iload_n (pc' := 34) dX12_pays_33 rfl rfl ?_
      refine g_isub (pc' := 35) dX12_pays_34 rfl ?_
      refine g_iastN (pc' := 36) dX12_pays_35 rfl rfl (by decide) (by omega) ?_
      refine g_aload_n (pc' := 37) dX12_pays_36 rfl rfl ?_
      refine g_getS (pc' := 40) (k := 29) (b := (129, 0)) dX12_pays_37 rfl rfl ck_13 (by decide) fl_X12_78 rfl hs rfl ?_
      refine g_iload_n (pc' := 41) dX12_pays_40 rfl rfl ?_
      refine g_ialdN (pc' := 42) (v := _) dX12_pays_41 rfl rfl (by decide) (by omega) (rfl) ?_
      refine g_iret dX12_pays_42 rfl (by decide) (by decide) ?_
      have e : sPays (mo h) (nI f) n = ((mo h) 129 f - n, stU (mo h) 129 f ((mo h) 129 f - n)) := by unfold sPays; simp only [nI_clamp (show f < 2 ^ 31 by omega)]; exact cif_t ⟨by assumption, by assumption⟩
      rw [e]
      exact ⟨by rw [wI_same]; rfl, mo_wI rfl, (Mk.rf h).w (Or.inr (by decide))⟩
    ·
      refine g_iconst (v := -1) (pc' := 25) dX12_pays_24 rfl (by decide) ?_
      refine g_iret dX12_pays_25 rfl (by decide) (by decide) ?_
      have e : sPays (mo h) (nI f) n = (-1, mo h) := by unfold sPays; simp only [nI_clamp (show f < 2 ^ 31 by omega)]; exact cif_f (by rintro ⟨z0, z1⟩; contradiction)
      rw [e]
      exact ⟨rfl, rfl, Mk.rf h⟩
noncomputable def sLeaves (m : St) (x : Int32) (k : Int32) : Int32 × St := cif ((∃ j : Nat, j < nF m ∧ x = nI j) ∧ (∃ j : Nat, j < nK m ∧ k = nI j) ∧ (¬ m 186 (8 * x.toNatClampNeg + k.toNatClampNeg) = -1)) (1, stU m 186 (8 * x.toNatClampNeg + k.toNatClampNeg) (-1)) (0, m)
set_option maxRecDepth 4000 in
theorem cm_leaves {E : En} (hok : EOK E) {h : Hp} (hs : Shp h.2) (hw : Wf (mo h)) (x : Int32) (k : Int32) : Call E m_X12_leaves 2 0 0 [vR MO, vI x, vI k] h (fun r h' => r = some (vI (sLeaves (mo h) x k).1) ∧ mo h' = (sLeaves (mo h) x k).2 ∧ Mk h h') := by
  have hNw : h.1 MO 2 = nI (nW (mo h)) := hw.w.1
  have hNwb := hw.w.2
  have hC : h.1 MO 30 = nI (nC (mo h)) := hw.c.1
  have hCb := hw.c.2
  have hK : h.1 MO 3 = nI (nK (mo h)) := hw.k.1
  have hKb := hw.k.2
  have hT : h.1 MO 4 = nI (nT (mo h)) := hw.t.1
  have hTb := hw.t.2
  have hF : h.1 MO 5 = nI (nF (mo h)) := hw.f.1
  have hFb := hw.f.2
  have hRc : h.1 MO 59 = nI (nR (mo h)) := hw.r.1
  have hRb := hw.r.2
  have hG : h.1 MO 60 = nI (nGf (mo h)) := hw.g.1
  have hGb := hw.g.2
  have hA : h.1 MO 70 = nI (nA (mo h)) := hw.a.1
  have hAb := hw.a.2
  have hTl : h.1 MO 1 = nI (nTl (mo h)) := hw.tl.1
  have hTlb := hw.tl.2
  refine Call.enter hok (by decide) (Nat.le_of_ble_eq_true rfl) ?_
  show G E m_X12_leaves 2 0 0 _ h 0 [some (vR MO), some (vI x), some (vI k)] [] h 0 0
  refine g_aload_n (pc' := 1) dX12_leaves_0 rfl rfl ?_
  refine g_iload_n (pc' := 2) dX12_leaves_1 rfl rfl ?_
  refine g_invV (pc' := 5) (cm_isFamily hok hw _) dX12_leaves_2 rfl rfl ck_13 rfl ml_X12_435 im_X12_isFamily sl_X12_isFamily in_X12 co_X12_isFamily pd_X12_isFamily rfl (by omega) (by decide) ⟨by decide, by decide⟩ (Nat.le_of_ble_eq_true rfl) ?_
  rintro _ _ ⟨rfl, rfl⟩ -
  refine g_ifB_eq (tgt := 31) (pc' := 8) dX12_leaves_5 rfl (by decide) (fun c5 => ?_) (fun c5 => ?_)
  ·
    refine g_iconstN (n := 0) (pc' := 32) dX12_leaves_31 rfl ?_
    refine g_zret dX12_leaves_32 rfl (by rfl) (by decide) (by decide) ?_
    have e : sLeaves (mo h) x k = (0, mo h) := by exact cif_f (by rintro ⟨z0, z1, z2⟩; contradiction)
    rw [e]
    exact ⟨rfl, rfl, Mk.rf h⟩
  ·
    have k5 := c5
    obtain ⟨f, hf, rfl⟩ := k5
    refine g_aload_n (pc' := 9) dX12_leaves_8 rfl rfl ?_
    refine g_iload_n (pc' := 10) dX12_leaves_9 rfl rfl ?_
    refine g_invV (pc' := 13) (cm_isKind hok hw _) dX12_leaves_10 rfl rfl ck_13 rfl ml_X12_230 im_X12_isKind sl_X12_isKind in_X12 co_X12_isKind pd_X12_isKind rfl (by omega) (by decide) ⟨by decide, by decide⟩ (Nat.le_of_ble_eq_true rfl) ?_
    rintro _ _ ⟨rfl, rfl⟩ -
    refine g_ifB_eq (tgt := 31) (pc' := 16) dX12_leaves_13 rfl (by decide) (fun c13 => ?_) (fun c13 => ?_)
    ·
      refine g_iconstN (n := 0) (pc' := 32) dX12_leaves_31 rfl ?_
      refine g_zret dX12_leaves_32 rfl (by rfl) (by decide) (by decide) ?_
      have e : sLeaves (mo h) (nI f) k = (0, mo h) := by unfold sLeaves; simp only [nI_clamp (show f < 2 ^ 31 by omega)]; exact cif_f (by rintro ⟨z0, z1, z2⟩; contradiction)
      rw [e]
      exact ⟨rfl, rfl, Mk.rf h⟩
    ·
      have k13 := c13
      obtain ⟨j, hj, rfl⟩ := k13
      refine g_aload_n (pc' := 17) dX12_leaves_16 rfl rfl ?_
      refine g_getS (pc' := 20) (k := 86) (b := (186, 0)) dX12_leaves_17 rfl rfl ck_13 (by decide) fl_X12_183 rfl hs rfl ?_
      refine g_bipushN (n := 8) (pc' := 22) dX12_leaves_20 rfl (by decide) ?_
      refine g_iload_n (pc' := 23) dX12_leaves_22 rfl rfl ?_
      refine g_imulN (pc' := 24) dX12_leaves_23 rfl ?_
      refine g_iload_n (pc' := 25) dX12_leaves_24 rfl rfl ?_
      refine g_iaddN (pc' := 26) dX12_leaves_25 rfl ?_
      refine g_ialdN (pc' := 27) (v := _) dX12_leaves_26 rfl rfl (by decide) (by omega) (rfl) ?_
      refine g_iconst (v := -1) (pc' := 28) dX12_leaves_27 rfl (by decide) ?_
      refine g_icmp_ne (tgt := 33) (pc' := 31) dX12_leaves_28 rfl (by decide) (fun c28 => ?_) (fun c28 => ?_)
      ·
        refine g_aload_n (pc' := 34) dX12_leaves_33 rfl rfl ?_
        refine g_getS (pc' := 37) (k := 86) (b := (186, 0)) dX12_leaves_34 rfl rfl ck_13 (by decide) fl_X12_183 rfl hs rfl ?_
        refine g_bipushN (n := 8) (pc' := 39) dX12_leaves_37 rfl (by decide) ?_
        refine g_iload_n (pc' := 40) dX12_leaves_39 rfl rfl ?_
        refine g_imulN (pc' := 41) dX12_leaves_40 rfl ?_
        refine g_iload_n (pc' := 42) dX12_leaves_41 rfl rfl ?_
        refine g_iaddN (pc' := 43) dX12_leaves_42 rfl ?_
        refine g_iconst (v := -1) (pc' := 44) dX12_leaves_43 rfl (by decide) ?_
        refine g_iastN (pc' := 45) dX12_leaves_44 rfl rfl (by decide) (by omega) ?_
        refine g_iconstN (n := 1) (pc' := 46) dX12_leaves_45 rfl ?_
        refine g_zret dX12_leaves_46 rfl (by rfl) (by decide) (by decide) ?_
        have e : sLeaves (mo h) (nI f) (nI j) = (1, stU (mo h) 186 (8 * f + j) (-1)) := by unfold sLeaves; simp only [nI_clamp (show f < 2 ^ 31 by omega), nI_clamp (show j < 2 ^ 31 by omega)]; exact cif_t ⟨by assumption, by assumption, by assumption⟩
        rw [e]
        exact ⟨rfl, mo_wI rfl, (Mk.rf h).w (Or.inr (by decide))⟩
      ·
        refine g_iconstN (n := 0) (pc' := 32) dX12_leaves_31 rfl ?_
        refine g_zret dX12_leaves_32 rfl (by rfl) (by decide) (by decide) ?_
        have e : sLeaves (mo h) (nI f) (nI j) = (0, mo h) := by unfold sLeaves; simp only [nI_clamp (show f < 2 ^ 31 by omega), nI_clamp (show j < 2 ^ 31 by omega)]; exact cif_f (by rintro ⟨z0, z1, z2⟩; contradiction)
        rw [e]
        exact ⟨rfl, rfl, Mk.rf h⟩
noncomputable def sTold (m : St) (x : Int32) (k : Int32) : Int32 × St := cif ((∃ j : Nat, j < nR m ∧ x = nI j) ∧ (∃ j : Nat, j < nF m ∧ k = nI j) ∧ (m 166 (10 * x.toNatClampNeg + k.toNatClampNeg) = -1)) (1, stU m 166 (10 * x.toNatClampNeg + k.toNatClampNeg) (m 1 2)) (0, m)
set_option maxRecDepth 4000 in
theorem cm_told {E : En} (hok : EOK E) {h : Hp} (hs : Shp h.2) (hw : Wf (mo h)) (x : Int32) (k : Int32) : Call E m_X12_told 2 0 0 [vR MO, vI x, vI k] h (fun r h' => r = some (vI (sTold (mo h) x k).1) ∧ mo h' = (sTold (mo h) x k).2 ∧ Mk h h') := by
  have hNw : h.1 MO 2 = nI (nW (mo h)) := hw.w.1
  have hNwb := hw.w.2
  have hC : h.1 MO 30 = nI (nC (mo h)) := hw.c.1
  have hCb := hw.c.2
  have hK : h.1 MO 3 = nI (nK (mo h)) := hw.k.1
  have hKb := hw.k.2
  have hT : h.1 MO 4 = nI (nT (mo h)) := hw.t.1
  have hTb := hw.t.2
  have hF : h.1 MO 5 = nI (nF (mo h)) := hw.f.1
  have hFb := hw.f.2
  have hRc : h.1 MO 59 = nI (nR (mo h)) := hw.r.1
  have hRb := hw.r.2
  have hG : h.1 MO 60 = nI (nGf (mo h)) := hw.g.1
  have hGb := hw.g.2
  have hA : h.1 MO 70 = nI (nA (mo h)) := hw.a.1
  have hAb := hw.a.2
  have hTl : h.1 MO 1 = nI (nTl (mo h)) := hw.tl.1
  have hTlb := hw.tl.2
  refine Call.enter hok (by decide) (Nat.le_of_ble_eq_true rfl) ?_
  show G E m_X12_told 2 0 0 _ h 0 [some (vR MO), some (vI x), some (vI k)] [] h 0 0
  refine g_aload_n (pc' := 1) dX12_told_0 rfl rfl ?_
  refine g_iload_n (pc' := 2) dX12_told_1 rfl rfl ?_
  refine g_invV (pc' := 5) (cm_isRecall hok hw _) dX12_told_2 rfl rfl ck_13 rfl ml_X12_432 im_X12_isRecall sl_X12_isRecall in_X12 co_X12_isRecall pd_X12_isRecall rfl (by omega) (by decide) ⟨by decide, by decide⟩ (Nat.le_of_ble_eq_true rfl) ?_
  rintro _ _ ⟨rfl, rfl⟩ -
  refine g_ifB_eq (tgt := 31) (pc' := 8) dX12_told_5 rfl (by decide) (fun c5 => ?_) (fun c5 => ?_)
  ·
    refine g_iconstN (n := 0) (pc' := 32) dX12_told_31 rfl ?_
    refine g_zret dX12_told_32 rfl (by rfl) (by decide) (by decide) ?_
    have e : sTold (mo h) x k = (0, mo h) := by exact cif_f (by rintro ⟨z0, z1, z2⟩; contradiction)
    rw [e]
    exact ⟨rfl, rfl, Mk.rf h⟩
  ·
    have k5 := c5
    obtain ⟨r, hr, rfl⟩ := k5
    refine g_aload_n (pc' := 9) dX12_told_8 rfl rfl ?_
    refine g_iload_n (pc' := 10) dX12_told_9 rfl rfl ?_
    refine g_invV (pc' := 13) (cm_isFamily hok hw _) dX12_told_10 rfl rfl ck_13 rfl ml_X12_435 im_X12_isFamily sl_X12_isFamily in_X12 co_X12_isFamily pd_X12_isFamily rfl (by omega) (by decide) ⟨by decide, by decide⟩ (Nat.le_of_ble_eq_true rfl) ?_
    rintro _ _ ⟨rfl, rfl⟩ -
    refine g_ifB_eq (tgt := 31) (pc' := 16) dX12_told_13 rfl (by decide) (fun c13 => ?_) (fun c13 => ?_)
    ·
      refine g_iconstN (n := 0) (pc' := 32) dX12_told_31 rfl ?_
      refine g_zret dX12_told_32 rfl (by rfl) (by decide) (by decide) ?_
      have e : sTold (mo h) (nI r) k = (0, mo h) := by unfold sTold; simp only [nI_clamp (show r < 2 ^ 31 by omega)]; exact cif_f (by rintro ⟨z0, z1, z2⟩; contradiction)
      rw [e]
      exact ⟨rfl, rfl, Mk.rf h⟩
    ·
      have k13 := c13
      obtain ⟨f, hf, rfl⟩ := k13
      refine g_aload_n (pc' := 17) dX12_told_16 rfl rfl ?_
      refine g_getS (pc' := 20) (k := 66) (b := (166, 0)) dX12_told_17 rfl rfl ck_13 (by decide) fl_X12_141 rfl hs rfl ?_
      refine g_bipushN (n := 10) (pc' := 22) dX12_told_20 rfl (by decide) ?_
      refine g_iload_n (pc' := 23) dX12_told_22 rfl rfl ?_
      refine g_imulN (pc' := 24) dX12_told_23 rfl ?_
      refine g_iload_n (pc' := 25) dX12_told_24 rfl rfl ?_
      refine g_iaddN (pc' := 26) dX12_told_25 rfl ?_
      refine g_ialdN (pc' := 27) (v := _) dX12_told_26 rfl rfl (by decide) (by omega) (rfl) ?_
      refine g_iconst (v := -1) (pc' := 28) dX12_told_27 rfl (by decide) ?_
      refine g_icmp_eq (tgt := 33) (pc' := 31) dX12_told_28 rfl (by decide) (fun c28 => ?_) (fun c28 => ?_)
      ·
        refine g_aload_n (pc' := 34) dX12_told_33 rfl rfl ?_
        refine g_getS (pc' := 37) (k := 66) (b := (166, 0)) dX12_told_34 rfl rfl ck_13 (by decide) fl_X12_141 rfl hs rfl ?_
        refine g_bipushN (n := 10) (pc' := 39) dX12_told_37 rfl (by decide) ?_
        refine g_iload_n (pc' := 40) dX12_told_39 rfl rfl ?_
        refine g_imulN (pc' := 41) dX12_told_40 rfl ?_
        refine g_iload_n (pc' := 42) dX12_told_41 rfl rfl ?_
        refine g_iaddN (pc' := 43) dX12_told_42 rfl ?_
        refine g_aload_n (pc' := 44) dX12_told_43 rfl rfl ?_
        refine g_getI (pc' := 47) (k := 2) dX12_told_44 rfl rfl ck_13 (by decide) fl_X12_219 rfl ?_
        refine g_iastN (pc' := 48) dX12_told_47 rfl rfl (by decide) (by omega) ?_
        refine g_iconstN (n := 1) (pc' := 49) dX12_told_48 rfl ?_
        refine g_zret dX12_told_49 rfl (by rfl) (by decide) (by decide) ?_
        have e : sTold (mo h) (nI r) (nI f) = (1, stU (mo h) 166 (10 * r + f) ((mo h) 1 2)) := by unfold sTold; simp only [nI_clamp (show r < 2 ^ 31 by omega), nI_clamp (show f < 2 ^ 31 by omega)]; exact cif_t ⟨by assumption, by assumption, by assumption⟩
        rw [e]
        exact ⟨rfl, mo_wI rfl, (Mk.rf h).w (Or.inr (by decide))⟩
      ·
        refine g_iconstN (n := 0) (pc' := 32) dX12_told_31 rfl ?_
        refine g_zret dX12_told_32 rfl (by rfl) (by decide) (by decide) ?_
        have e : sTold (mo h) (nI r) (nI f) = (0, mo h) := by unfold sTold; simp only [nI_clamp (show r < 2 ^ 31 by omega), nI_clamp (show f < 2 ^ 31 by omega)]; exact cif_f (by rintro ⟨z0, z1, z2⟩; contradiction)
        rw [e]
        exact ⟨rfl, rfl, Mk.rf h⟩
