theorem tab_out {x : Int32} (n : Nat) (hx : ∀ i : Nat, i ≤ n → x ≠ nI i) : x.toInt < 0 ∨ (n : Int) < x.toInt := by
  rcases Int.lt_or_le x.toInt 0 with q | q
  · exact Or.inl q
  · refine Or.inr ?_
    rcases Int.lt_or_le (n : Int) x.toInt with z | z
    · exact z
    · exfalso
      have hr := Int32.toInt_lt x
      refine hx x.toInt.toNat (by omega) ?_
      rw [← Int32.toInt_inj, nI_toInt (by omega)]
      omega
/-- count's numbers -/
noncomputable def cntS (m : St) (x : Int32) : Int32 := cif (x = nI 0) (m 1 2) (cif (x = nI 1) (m 1 3) (cif (x = nI 2) (m 1 4) (cif (x = nI 3) (m 1 5) (cif (x = nI 4) (m 1 30) (cif (x = nI 5) (m 1 1) (cif (x = nI 6) (m 1 59) (cif (x = nI 7) (m 1 60) (cif (x = nI 8) (m 1 70) (-1)))))))))
noncomputable def cntF (m : St) (x : Int32) : Int32 := cif (∃ j : Nat, j < nK m ∧ x - nI 10 = nI j) (nI (wfr m (x - nI 10).toNatClampNeg)) (cif (∃ j : Nat, j < nF m ∧ x - nI 20 = nI j) (nI (hsT m (x - nI 20))) (cntS m x))
set_option maxRecDepth 4000 in
theorem cm_count {E : En} (hok : EOK E) {h : Hp} (hs : Shp h.2) (hw : Wf (mo h)) (x : Int32) : Fn E m_X12_count 2 [vR MO, vI (x)] h (vI (cntF (mo h) x)) := by
  have hNw : h.1 MO 2 = nI (nW (mo h)) := hw.w.1
  have hNwb := hw.w.2
  have hC : h.1 MO 30 = nI (nC (mo h)) := hw.c.1
  have hCb := hw.c.2
  have hK : h.1 MO 3 = nI (nK (mo h)) := hw.k.1
  have hKb := hw.k.2
  have hT : h.1 MO 4 = nI (nT (mo h)) := hw.t.1
  have hTb := hw.t.2
  have hF : h.1 MO 5 = nI (nF (mo h)) := hw.f.1
  have hFb := hw.f.2
  have hRc : h.1 MO 59 = nI (nR (mo h)) := hw.r.1
  have hRb := hw.r.2
  have hG : h.1 MO 60 = nI (nGf (mo h)) := hw.g.1
  have hGb := hw.g.2
  have hA : h.1 MO 70 = nI (nA (mo h)) := hw.a.1
  have hAb := hw.a.2
  have hTl : h.1 MO 1 = nI (nTl (mo h)) := hw.tl.1
  have hTlb := hw.tl.2
  refine Call.enter hok (by decide) (Nat.le_of_ble_eq_true rfl) ?_
  show G E m_X12_count 2 0 0 _ h 0 [some (vR MO), some (vI x)] [] h 0 0
  refine g_aload_n (pc' := 1) dX12_count_0 rfl rfl ?_
  refine g_iload_n (pc' := 2) dX12_count_1 rfl rfl ?_
  refine g_bipushN (n := 10) (pc' := 4) dX12_count_2 rfl (by decide) ?_
  refine g_isub (pc' := 5) dX12_count_4 rfl ?_
  refine g_invV (pc' := 8) (cm_isKind hok hw _) dX12_count_5 rfl rfl ck_13 rfl ml_X12_230 im_X12_isKind sl_X12_isKind in_X12 co_X12_isKind pd_X12_isKind rfl (by omega) (by decide) ⟨by decide, by decide⟩ (Nat.le_of_ble_eq_true rfl) ?_
  rintro _ _ ⟨rfl, rfl⟩ -
  refine g_ifB_eq (tgt := 20) (pc' := 11) dX12_count_8 rfl (by decide) (fun c8 => ?_) (fun c8 => ?_)
  ·
    refine g_aload_n (pc' := 21) dX12_count_20 rfl rfl ?_
    refine g_iload_n (pc' := 22) dX12_count_21 rfl rfl ?_
    refine g_bipushN (n := 20) (pc' := 24) dX12_count_22 rfl (by decide) ?_
    refine g_isub (pc' := 25) dX12_count_24 rfl ?_
    refine g_invV (pc' := 28) (cm_isFamily hok hw _) dX12_count_25 rfl rfl ck_13 rfl ml_X12_435 im_X12_isFamily sl_X12_isFamily in_X12 co_X12_isFamily pd_X12_isFamily rfl (by omega) (by decide) ⟨by decide, by decide⟩ (Nat.le_of_ble_eq_true rfl) ?_
    rintro _ _ ⟨rfl, rfl⟩ -
    refine g_ifB_eq (tgt := 40) (pc' := 31) dX12_count_28 rfl (by decide) (fun c28 => ?_) (fun c28 => ?_)
    ·
      refine g_iload_n (pc' := 41) dX12_count_40 rfl rfl ?_
      rcases Classical.em (x = nI 0) with rfl | w0
      ·
        refine g_tabIn (off := 51) (tgt := 92) dX12_count_41 (by decide) (by decide) rfl (by decide) ?_
        refine g_aload_n (pc' := 93) dX12_count_92 rfl rfl ?_
        refine g_getI (pc' := 96) (k := 2) dX12_count_93 rfl rfl ck_13 (by decide) fl_X12_219 rfl ?_
        refine g_iret dX12_count_96 rfl (by decide) (by decide) ?_
        exact ⟨congrArg (fun z : Int32 => some (vI z)) (show _ = cntF (mo h) (nI 0) from ((cif_f c8).trans ((cif_f c28).trans (cif_t rfl))).symm), rfl⟩
      rcases Classical.em (x = nI 1) with rfl | w1
      ·
        refine g_tabIn (off := 56) (tgt := 97) dX12_count_41 (by decide) (by decide) rfl (by decide) ?_
        refine g_aload_n (pc' := 98) dX12_count_97 rfl rfl ?_
        refine g_getI (pc' := 101) (k := 3) dX12_count_98 rfl rfl ck_13 (by decide) fl_X12_207 rfl ?_
        refine g_iret dX12_count_101 rfl (by decide) (by decide) ?_
        exact ⟨congrArg (fun z : Int32 => some (vI z)) (show _ = cntF (mo h) (nI 1) from ((cif_f c8).trans ((cif_f c28).trans ((cif_f w0).trans (cif_t rfl)))).symm), rfl⟩
      rcases Classical.em (x = nI 2) with rfl | w2
      ·
        refine g_tabIn (off := 61) (tgt := 102) dX12_count_41 (by decide) (by decide) rfl (by decide) ?_
        refine g_aload_n (pc' := 103) dX12_count_102 rfl rfl ?_
        refine g_getI (pc' := 106) (k := 4) dX12_count_103 rfl rfl ck_13 (by decide) fl_X12_211 rfl ?_
        refine g_iret dX12_count_106 rfl (by decide) (by decide) ?_
        exact ⟨congrArg (fun z : Int32 => some (vI z)) (show _ = cntF (mo h) (nI 2) from ((cif_f c8).trans ((cif_f c28).trans ((cif_f w0).trans ((cif_f w1).trans (cif_t rfl))))).symm), rfl⟩
      rcases Classical.em (x = nI 3) with rfl | w3
      ·
        refine g_tabIn (off := 66) (tgt := 107) dX12_count_41 (by decide) (by decide) rfl (by decide) ?_
        refine g_aload_n (pc' := 108) dX12_count_107 rfl rfl ?_
        refine g_getI (pc' := 111) (k := 5) dX12_count_108 rfl rfl ck_13 (by decide) fl_X12_214 rfl ?_
        refine g_iret dX12_count_111 rfl (by decide) (by decide) ?_
        exact ⟨congrArg (fun z : Int32 => some (vI z)) (show _ = cntF (mo h) (nI 3) from ((cif_f c8).trans ((cif_f c28).trans ((cif_f w0).trans ((cif_f w1).trans ((cif_f w2).trans (cif_t rfl)))))).symm), rfl⟩
      rcases Classical.em (x = nI 4) with rfl | w4
      ·
        refine g_tabIn (off := 71) (tgt := 112) dX12_count_41 (by decide) (by decide) rfl (by decide) ?_
        refine g_aload_n (pc' := 113) dX12_count_112 rfl rfl ?_
        refine g_getI (pc' := 116) (k := 30) dX12_count_113 rfl rfl ck_13 (by decide) fl_X12_375 rfl ?_
        refine g_iret dX12_count_116 rfl (by decide) (by decide) ?_
        exact ⟨congrArg (fun z : Int32 => some (vI z)) (show _ = cntF (mo h) (nI 4) from ((cif_f c8).trans ((cif_f c28).trans ((cif_f w0).trans ((cif_f w1).trans ((cif_f w2).trans ((cif_f w3).trans (cif_t rfl))))))).symm), rfl⟩
      rcases Classical.em (x = nI 5) with rfl | w5
      ·
        refine g_tabIn (off := 76) (tgt := 117) dX12_count_41 (by decide) (by decide) rfl (by decide) ?_
        refine g_aload_n (pc' := 118) dX12_count_117 rfl rfl ?_
        refine g_getI (pc' := 121) (k := 1) dX12_count_118 rfl rfl ck_13 (by decide) fl_X12_255 rfl ?_
        refine g_iret dX12_count_121 rfl (by decide) (by decide) ?_
        exact ⟨congrArg (fun z : Int32 => some (vI z)) (show _ = cntF (mo h) (nI 5) from ((cif_f c8).trans ((cif_f c28).trans ((cif_f w0).trans ((cif_f w1).trans ((cif_f w2).trans ((cif_f w3).trans ((cif_f w4).trans (cif_t rfl)))))))).symm), rfl⟩
      rcases Classical.em (x = nI 6) with rfl | w6
      ·
        refine g_tabIn (off := 81) (tgt := 122) dX12_count_41 (by decide) (by decide) rfl (by decide) ?_
        refine g_aload_n (pc' := 123) dX12_count_122 rfl rfl ?_
        refine g_getI (pc' := 126) (k := 59) dX12_count_123 rfl rfl ck_13 (by decide) fl_X12_419 rfl ?_
        refine g_iret dX12_count_126 rfl (by decide) (by decide) ?_
        exact ⟨congrArg (fun z : Int32 => some (vI z)) (show _ = cntF (mo h) (nI 6) from ((cif_f c8).trans ((cif_f c28).trans ((cif_f w0).trans ((cif_f w1).trans ((cif_f w2).trans ((cif_f w3).trans ((cif_f w4).trans ((cif_f w5).trans (cif_t rfl))))))))).symm), rfl⟩
      rcases Classical.em (x = nI 7) with rfl | w7
      ·
        refine g_tabIn (off := 86) (tgt := 127) dX12_count_41 (by decide) (by decide) rfl (by decide) ?_
        refine g_aload_n (pc' := 128) dX12_count_127 rfl rfl ?_
        refine g_getI (pc' := 131) (k := 60) dX12_count_128 rfl rfl ck_13 (by decide) fl_X12_426 rfl ?_
        refine g_iret dX12_count_131 rfl (by decide) (by decide) ?_
        exact ⟨congrArg (fun z : Int32 => some (vI z)) (show _ = cntF (mo h) (nI 7) from ((cif_f c8).trans ((cif_f c28).trans ((cif_f w0).trans ((cif_f w1).trans ((cif_f w2).trans ((cif_f w3).trans ((cif_f w4).trans ((cif_f w5).trans ((cif_f w6).trans (cif_t rfl)))))))))).symm), rfl⟩
      rcases Classical.em (x = nI 8) with rfl | w8
      ·
        refine g_tabIn (off := 91) (tgt := 132) dX12_count_41 (by decide) (by decide) rfl (by decide) ?_
        refine g_aload_n (pc' := 133) dX12_count_132 rfl rfl ?_
        refine g_getI (pc' := 136) (k := 70) dX12_count_133 rfl rfl ck_13 (by decide) fl_X12_449 rfl ?_
        refine g_iret dX12_count_136 rfl (by decide) (by decide) ?_
        exact ⟨congrArg (fun z : Int32 => some (vI z)) (show _ = cntF (mo h) (nI 8) from ((cif_f c8).trans ((cif_f c28).trans ((cif_f w0).trans ((cif_f w1).trans ((cif_f w2).trans ((cif_f w3).trans ((cif_f w4).trans ((cif_f w5).trans ((cif_f w6).trans ((cif_f w7).trans (cif_t rfl))))))))))).symm), rfl⟩
      refine g_tabOut (tgt := 137) dX12_count_41 (tab_out 8 (fun i hi => by rcases (show i = 0 ∨ i = 1 ∨ i = 2 ∨ i = 3 ∨ i = 4 ∨ i = 5 ∨ i = 6 ∨ i = 7 ∨ i = 8 by omega) with rfl | rfl | rfl | rfl | rfl | rfl | rfl | rfl | rfl <;> assumption)) (by decide) ?_
      refine g_iconst (v := -1) (pc' := 138) dX12_count_137 rfl (by decide) ?_
      refine g_iret dX12_count_138 rfl (by decide) (by decide) ?_
      exact ⟨congrArg (fun z : Int32 => some (vI z)) (show _ = cntF (mo h) x from ((cif_f c8).trans ((cif_f c28).trans ((cif_f w0).trans ((cif_f w1).trans ((cif_f w2).trans ((cif_f w3).trans ((cif_f w4).trans ((cif_f w5).trans ((cif_f w6).trans ((cif_f w7).trans (cif_f w8))))))))))).symm), rfl⟩
    ·
      refine g_aload_n (pc' := 32) dX12_count_31 rfl rfl ?_
      refine g_iload_n (pc' := 33) dX12_count_32 rfl rfl ?_
      refine g_bipushN (n := 20) (pc' := 35) dX12_count_33 rfl (by decide) ?_
      refine g_isub (pc' := 36) dX12_count_35 rfl ?_
      refine g_invV (pc' := 39) (cm_hasToys hok hs hw _) dX12_count_36 rfl rfl ck_13 rfl ml_X12_397 im_X12_hasToys sl_X12_hasToys in_X12 co_X12_hasToys pd_X12_hasToys rfl (by omega) (by decide) ⟨by decide, by decide⟩ (Nat.le_of_ble_eq_true rfl) ?_
      rintro _ _ ⟨rfl, rfl⟩ -
      refine g_iret dX12_count_39 rfl (by decide) (by decide) ?_
      exact ⟨congrArg (fun z : Int32 => some (vI z)) (show _ = cntF (mo h) x from ((cif_f c8).trans (cif_t c28)).symm), rfl⟩
  ·
    have k8 := c8
    obtain ⟨j, hj, e8⟩ := k8
    refine g_aload_n (pc' := 12) dX12_count_11 rfl rfl ?_
    refine g_iload_n (pc' := 13) dX12_count_12 rfl rfl ?_
    refine g_bipushN (n := 10) (pc' := 15) dX12_count_13 rfl (by decide) ?_
    refine g_isub (pc' := 16) dX12_count_15 rfl ?_
    rw [e8]
    refine g_invV (pc' := 19) (cm_waitingFor hok hs hw (k := j) (by omega)) dX12_count_16 rfl rfl ck_13 rfl ml_X12_400 im_X12_waitingFor sl_X12_waitingFor in_X12 co_X12_waitingFor pd_X12_waitingFor rfl (by omega) (by decide) ⟨by decide, by decide⟩ (Nat.le_of_ble_eq_true rfl) ?_
    rintro _ _ ⟨rfl, rfl⟩ -
    refine g_iret dX12_count_19 rfl (by decide) (by decide) ?_
    exact ⟨congrArg (fun z : Int32 => some (vI z)) (show nI (wfr (mo h) j) = cntF (mo h) x from ((cif_t c8).trans (by rw [e8, nI_clamp (by omega)])).symm), rfl⟩
noncomputable def tisS (m : St) (t : Nat) (x : Int32) : Int32 := cif (x = nI 0) (m 118 t) (cif (x = nI 1) (m 119 t) (cif (x = nI 2) (m 120 t) (cif (x = nI 3) (m 117 t) (cif (x = nI 4) (m 122 t) (cif (x = nI 5) (bi (¬ m 124 t = 0)) (cif (x = nI 6) (bi (isRec m t)) (cif (x = nI 7) (lck m t) (cif (x = nI 8) (bagW m t) (-1)))))))))
noncomputable def tisF (m : St) (t : Nat) (x : Int32) : Int32 := cif (0 ≤ x - nI 10 ∧ x - nI 10 ≤ 5) (m 125 (6 * t + (x - nI 10).toNatClampNeg)) (tisS m t x)
noncomputable def sToyIs (m : St) (t0 : Int32) (x : Int32) : Int32 × St := cif ((∃ j : Nat, j < nT m ∧ t0 = nI j)) (tisF m t0.toNatClampNeg x, m) (-1, m)
set_option maxRecDepth 4000 in
theorem cm_toyIs {E : En} (hok : EOK E) {h : Hp} (hs : Shp h.2) (hw : Wf (mo h)) (t0 : Int32) (x : Int32) : Call E m_X12_toyIs 3 0 0 [vR MO, vI t0, vI x] h (fun r h' => r = some (vI (sToyIs (mo h) t0 x).1) ∧ mo h' = (sToyIs (mo h) t0 x).2 ∧ Mk h h') := by
  have hNw : h.1 MO 2 = nI (nW (mo h)) := hw.w.1
  have hNwb := hw.w.2
  have hC : h.1 MO 30 = nI (nC (mo h)) := hw.c.1
  have hCb := hw.c.2
  have hK : h.1 MO 3 = nI (nK (mo h)) := hw.k.1
  have hKb := hw.k.2
  have hT : h.1 MO 4 = nI (nT (mo h)) := hw.t.1
  have hTb := hw.t.2
  have hF : h.1 MO 5 = nI (nF (mo h)) := hw.f.1
  have hFb := hw.f.2
  have hRc : h.1 MO 59 = nI (nR (mo h)) := hw.r.1
  have hRb := hw.r.2
  have hG : h.1 MO 60 = nI (nGf (mo h)) := hw.g.1
  have hGb := hw.g.2
  have hA : h.1 MO 70 = nI (nA (mo h)) := hw.a.1
  have hAb := hw.a.2
  have hTl : h.1 MO 1 = nI (nTl (mo h)) := hw.tl.1
  have hTlb := hw.tl.2
  refine Call.enter hok (by decide) (Nat.le_of_ble_eq_true rfl) ?_
  show G E m_X12_toyIs 3 0 0 _ h 0 [some (vR MO), some (vI t0), some (vI x)] [] h 0 0
  refine g_aload_n (pc' := 1) dX12_toyIs_0 rfl rfl ?_
  refine g_iload_n (pc' := 2) dX12_toyIs_1 rfl rfl ?_
  refine g_invV (pc' := 5) (cm_isToy hok hw _) dX12_toyIs_2 rfl rfl ck_13 rfl ml_X12_443 im_X12_isToy sl_X12_isToy in_X12 co_X12_isToy pd_X12_isToy rfl (by omega) (by decide) ⟨by decide, by decide⟩ (Nat.le_of_ble_eq_true rfl) ?_
  rintro _ _ ⟨rfl, rfl⟩ -
  refine g_ifB_ne (tgt := 10) (pc' := 8) dX12_toyIs_5 rfl (by decide) (fun c5 => ?_) (fun c5 => ?_)
  ·
    have k5 := c5
    obtain ⟨t, ht, rfl⟩ := k5
    refine g_iload_n (pc' := 11) dX12_toyIs_10 rfl rfl ?_
    refine g_bipushN (n := 10) (pc' := 13) dX12_toyIs_11 rfl (by decide) ?_
    refine g_isub (pc' := 14) dX12_toyIs_13 rfl ?_
    refine g_invS (pc' := 17) (cm_isSort hok _) dX12_toyIs_14 rfl ml_X12_234 st_X12_isSort in_X12 co_X12_isSort pd_X12_isSort rfl (by omega) (by decide) ⟨by decide, by decide⟩ (Nat.le_of_ble_eq_true rfl) ?_
    rintro _ _ ⟨rfl, rfl⟩ -
    refine g_ifB_eq (tgt := 35) (pc' := 20) dX12_toyIs_17 rfl (by decide) (fun c17 => ?_) (fun c17 => ?_)
    ·
      refine g_iload_n (pc' := 36) dX12_toyIs_35 rfl rfl ?_
      rcases Classical.em (x = nI 0) with rfl | w0
      ·
        refine g_tabIn (off := 52) (tgt := 88) dX12_toyIs_36 (by decide) (by decide) rfl (by decide) ?_
        refine g_aload_n (pc' := 89) dX12_toyIs_88 rfl rfl ?_
        refine g_getS (pc' := 92) (k := 18) (b := (118, 0)) dX12_toyIs_89 rfl rfl ck_13 (by decide) fl_X12_44 rfl hs rfl ?_
        refine g_iload_n (pc' := 93) dX12_toyIs_92 rfl rfl ?_
        refine g_ialdN (pc' := 94) (v := _) dX12_toyIs_93 rfl rfl (by decide) (by omega) (rfl) ?_
        refine g_iret dX12_toyIs_94 rfl (by decide) (by decide) ?_
        have e : sToyIs (mo h) (nI t) (nI 0) = (tisF (mo h) t (nI 0), mo h) := by unfold sToyIs; simp only [nI_clamp (show t < 2 ^ 31 by omega)]; exact cif_t c5
        rw [e]
        exact ⟨congrArg (fun z : Int32 => some (vI z)) (show _ = tisF (mo h) t (nI 0) from ((cif_f c17).trans (cif_t rfl)).symm), rfl, Mk.rf h⟩
      rcases Classical.em (x = nI 1) with rfl | w1
      ·
        refine g_tabIn (off := 59) (tgt := 95) dX12_toyIs_36 (by decide) (by decide) rfl (by decide) ?_
        refine g_aload_n (pc' := 96) dX12_toyIs_95 rfl rfl ?_
        refine g_getS (pc' := 99) (k := 19) (b := (119, 0)) dX12_toyIs_96 rfl rfl ck_13 (by decide) fl_X12_47 rfl hs rfl ?_
        refine g_iload_n (pc' := 100) dX12_toyIs_99 rfl rfl ?_
        refine g_ialdN (pc' := 101) (v := _) dX12_toyIs_100 rfl rfl (by decide) (by omega) (rfl) ?_
        refine g_iret dX12_toyIs_101 rfl (by decide) (by decide) ?_
        have e : sToyIs (mo h) (nI t) (nI 1) = (tisF (mo h) t (nI 1), mo h) := by unfold sToyIs; simp only [nI_clamp (show t < 2 ^ 31 by omega)]; exact cif_t c5
        rw [e]
        exact ⟨congrArg (fun z : Int32 => some (vI z)) (show _ = tisF (mo h) t (nI 1) from ((cif_f c17).trans ((cif_f w0).trans (cif_t rfl))).symm), rfl, Mk.rf h⟩
      rcases Classical.em (x = nI 2) with rfl | w2
      ·
        refine g_tabIn (off := 66) (tgt := 102) dX12_toyIs_36 (by decide) (by decide) rfl (by decide) ?_
        refine g_aload_n (pc' := 103) dX12_toyIs_102 rfl rfl ?_
        refine g_getS (pc' := 106) (k := 20) (b := (120, 0)) dX12_toyIs_103 rfl rfl ck_13 (by decide) fl_X12_50 rfl hs rfl ?_
        refine g_iload_n (pc' := 107) dX12_toyIs_106 rfl rfl ?_
        refine g_ialdN (pc' := 108) (v := _) dX12_toyIs_107 rfl rfl (by decide) (by omega) (rfl) ?_
        refine g_iret dX12_toyIs_108 rfl (by decide) (by decide) ?_
        have e : sToyIs (mo h) (nI t) (nI 2) = (tisF (mo h) t (nI 2), mo h) := by unfold sToyIs; simp only [nI_clamp (show t < 2 ^ 31 by omega)]; exact cif_t c5
        rw [e]
        exact ⟨congrArg (fun z : Int32 => some (vI z)) (show _ = tisF (mo h) t (nI 2) from ((cif_f c17).trans ((cif_f w0).trans ((cif_f w1).trans (cif_t rfl)))).symm), rfl, Mk.rf h⟩
      rcases Classical.em (x = nI 3) with rfl | w3
      ·
        refine g_tabIn (off := 73) (tgt := 109) dX12_toyIs_36 (by decide) (by decide) rfl (by decide) ?_
        refine g_aload_n (pc' := 110) dX12_toyIs_109 rfl rfl ?_
        refine g_getS (pc' := 113) (k := 17) (b := (117, 0)) dX12_toyIs_110 rfl rfl ck_13 (by decide) fl_X12_41 rfl hs rfl ?_
        refine g_iload_n (pc' := 114) dX12_toyIs_113 rfl rfl ?_
        refine g_ialdN (pc' := 115) (v := _) dX12_toyIs_114 rfl rfl (by decide) (by omega) (rfl) ?_
        refine g_iret dX12_toyIs_115 rfl (by decide) (by decide) ?_
        have e : sToyIs (mo h) (nI t) (nI 3) = (tisF (mo h) t (nI 3), mo h) := by unfold sToyIs; simp only [nI_clamp (show t < 2 ^ 31 by omega)]; exact cif_t c5
        rw [e]
        exact ⟨congrArg (fun z : Int32 => some (vI z)) (show _ = tisF (mo h) t (nI 3) from ((cif_f c17).trans ((cif_f w0).trans ((cif_f w1).trans ((cif_f w2).trans (cif_t rfl))))).symm), rfl, Mk.rf h⟩
      rcases Classical.em (x = nI 4) with rfl | w4
      ·
        refine g_tabIn (off := 80) (tgt := 116) dX12_toyIs_36 (by decide) (by decide) rfl (by decide) ?_
        refine g_aload_n (pc' := 117) dX12_toyIs_116 rfl rfl ?_
        refine g_getS (pc' := 120) (k := 22) (b := (122, 0)) dX12_toyIs_117 rfl rfl ck_13 (by decide) fl_X12_56 rfl hs rfl ?_
        refine g_iload_n (pc' := 121) dX12_toyIs_120 rfl rfl ?_
        refine g_ialdN (pc' := 122) (v := _) dX12_toyIs_121 rfl rfl (by decide) (by omega) (rfl) ?_
        refine g_iret dX12_toyIs_122 rfl (by decide) (by decide) ?_
        have e : sToyIs (mo h) (nI t) (nI 4) = (tisF (mo h) t (nI 4), mo h) := by unfold sToyIs; simp only [nI_clamp (show t < 2 ^ 31 by omega)]; exact cif_t c5
        rw [e]
        exact ⟨congrArg (fun z : Int32 => some (vI z)) (show _ = tisF (mo h) t (nI 4) from ((cif_f c17).trans ((cif_f w0).trans ((cif_f w1).trans ((cif_f w2).trans ((cif_f w3).trans (cif_t rfl)))))).symm), rfl, Mk.rf h⟩
      rcases Classical.em (x = nI 5) with rfl | w5
      ·
        refine g_tabIn (off := 87) (tgt := 123) dX12_toyIs_36 (by decide) (by decide) rfl (by decide) ?_
        refine g_aload_n (pc' := 124) dX12_toyIs_123 rfl rfl ?_
        refine g_getS (pc' := 127) (k := 24) (b := (124, 0)) dX12_toyIs_124 rfl rfl ck_13 (by decide) fl_X12_62 rfl hs rfl ?_
        refine g_iload_n (pc' := 128) dX12_toyIs_127 rfl rfl ?_
        refine g_zaldN (pc' := 129) (v := _) dX12_toyIs_128 rfl rfl (by decide) (by omega) (rfl) ?_
        refine g_if_eq (tgt := 136) (pc' := 132) dX12_toyIs_129 rfl (by decide) (fun c129 => ?_) (fun c129 => ?_)
        ·
          refine g_iconstN (n := 0) (pc' := 137) dX12_toyIs_136 rfl ?_
          refine g_iret dX12_toyIs_137 rfl (by decide) (by decide) ?_
          have e : sToyIs (mo h) (nI t) (nI 5) = (tisF (mo h) t (nI 5), mo h) := by unfold sToyIs; simp only [nI_clamp (show t < 2 ^ 31 by omega)]; exact cif_t c5
          rw [e]
          exact ⟨congrArg (fun z : Int32 => some (vI z)) (show _ = tisF (mo h) t (nI 5) from ((cif_f c17).trans ((cif_f w0).trans ((cif_f w1).trans ((cif_f w2).trans ((cif_f w3).trans ((cif_f w4).trans ((cif_t rfl).trans (bi_f (fun z => z c129))))))))).symm), rfl, Mk.rf h⟩
        ·
          refine g_iconstN (n := 1) (pc' := 133) dX12_toyIs_132 rfl ?_
          refine g_goto (tgt := 137) dX12_toyIs_133 (by decide) ?_
          refine g_iret dX12_toyIs_137 rfl (by decide) (by decide) ?_
          have e : sToyIs (mo h) (nI t) (nI 5) = (tisF (mo h) t (nI 5), mo h) := by unfold sToyIs; simp only [nI_clamp (show t < 2 ^ 31 by omega)]; exact cif_t c5
          rw [e]
          exact ⟨congrArg (fun z : Int32 => some (vI z)) (show _ = tisF (mo h) t (nI 5) from ((cif_f c17).trans ((cif_f w0).trans ((cif_f w1).trans ((cif_f w2).trans ((cif_f w3).trans ((cif_f w4).trans ((cif_t rfl).trans (bi_t c129)))))))).symm), rfl, Mk.rf h⟩
      rcases Classical.em (x = nI 6) with rfl | w6
      ·
        refine g_tabIn (off := 102) (tgt := 138) dX12_toyIs_36 (by decide) (by decide) rfl (by decide) ?_
        refine g_aload_n (pc' := 139) dX12_toyIs_138 rfl rfl ?_
        refine g_iload_n (pc' := 140) dX12_toyIs_139 rfl rfl ?_
        refine g_invV (pc' := 143) (cm_isRecalled hok hs hw (t := t) (by omega)) dX12_toyIs_140 rfl rfl ck_13 rfl ml_X12_452 im_X12_isRecalled sl_X12_isRecalled in_X12 co_X12_isRecalled pd_X12_isRecalled rfl (by omega) (by decide) ⟨by decide, by decide⟩ (Nat.le_of_ble_eq_true rfl) ?_
        rintro _ _ ⟨rfl, rfl⟩ -
        refine g_ifB_eq (tgt := 150) (pc' := 146) dX12_toyIs_143 rfl (by decide) (fun c143 => ?_) (fun c143 => ?_)
        ·
          refine g_iconstN (n := 0) (pc' := 151) dX12_toyIs_150 rfl ?_
          refine g_iret dX12_toyIs_151 rfl (by decide) (by decide) ?_
          have e : sToyIs (mo h) (nI t) (nI 6) = (tisF (mo h) t (nI 6), mo h) := by unfold sToyIs; simp only [nI_clamp (show t < 2 ^ 31 by omega)]; exact cif_t c5
          rw [e]
          exact ⟨congrArg (fun z : Int32 => some (vI z)) (show _ = tisF (mo h) t (nI 6) from ((cif_f c17).trans ((cif_f w0).trans ((cif_f w1).trans ((cif_f w2).trans ((cif_f w3).trans ((cif_f w4).trans ((cif_f w5).trans ((cif_t rfl).trans (bi_f c143))))))))).symm), rfl, Mk.rf h⟩
        ·
          refine g_iconstN (n := 1) (pc' := 147) dX12_toyIs_146 rfl ?_
          refine g_goto (tgt := 151) dX12_toyIs_147 (by decide) ?_
          refine g_iret dX12_toyIs_151 rfl (by decide) (by decide) ?_
          have e : sToyIs (mo h) (nI t) (nI 6) = (tisF (mo h) t (nI 6), mo h) := by unfold sToyIs; simp only [nI_clamp (show t < 2 ^ 31 by omega)]; exact cif_t c5
          rw [e]
          exact ⟨congrArg (fun z : Int32 => some (vI z)) (show _ = tisF (mo h) t (nI 6) from ((cif_f c17).trans ((cif_f w0).trans ((cif_f w1).trans ((cif_f w2).trans ((cif_f w3).trans ((cif_f w4).trans ((cif_f w5).trans ((cif_t rfl).trans (bi_t c143))))))))).symm), rfl, Mk.rf h⟩
      rcases Classical.em (x = nI 7) with rfl | w7
      ·
        refine g_tabIn (off := 116) (tgt := 152) dX12_toyIs_36 (by decide) (by decide) rfl (by decide) ?_
        refine g_aload_n (pc' := 153) dX12_toyIs_152 rfl rfl ?_
        refine g_iload_n (pc' := 154) dX12_toyIs_153 rfl rfl ?_
        refine g_invV (pc' := 157) (cm_lackingOf hok hs hw (t := t) (by omega)) dX12_toyIs_154 rfl rfl ck_13 rfl ml_X12_390 im_X12_lackingOf sl_X12_lackingOf in_X12 co_X12_lackingOf pd_X12_lackingOf rfl (by omega) (by decide) ⟨by decide, by decide⟩ (Nat.le_of_ble_eq_true rfl) ?_
        rintro _ _ ⟨rfl, rfl⟩ -
        refine g_iret dX12_toyIs_157 rfl (by decide) (by decide) ?_
        have e : sToyIs (mo h) (nI t) (nI 7) = (tisF (mo h) t (nI 7), mo h) := by unfold sToyIs; simp only [nI_clamp (show t < 2 ^ 31 by omega)]; exact cif_t c5
        rw [e]
        exact ⟨congrArg (fun z : Int32 => some (vI z)) (show _ = tisF (mo h) t (nI 7) from ((cif_f c17).trans ((cif_f w0).trans ((cif_f w1).trans ((cif_f w2).trans ((cif_f w3).trans ((cif_f w4).trans ((cif_f w5).trans ((cif_f w6).trans (cif_t rfl))))))))).symm), rfl, Mk.rf h⟩
      rcases Classical.em (x = nI 8) with rfl | w8
      ·
        refine g_tabIn (off := 122) (tgt := 158) dX12_toyIs_36 (by decide) (by decide) rfl (by decide) ?_
        refine g_aload_n (pc' := 159) dX12_toyIs_158 rfl rfl ?_
        refine g_iload_n (pc' := 160) dX12_toyIs_159 rfl rfl ?_
        refine g_invV (pc' := 163) (cm_bagOf hok hs hw (t := t) (by omega)) dX12_toyIs_160 rfl rfl ck_13 rfl ml_X12_486 im_X12_bagOf sl_X12_bagOf in_X12 co_X12_bagOf pd_X12_bagOf rfl (by omega) (by decide) ⟨by decide, by decide⟩ (Nat.le_of_ble_eq_true rfl) ?_
        rintro _ _ ⟨rfl, rfl⟩ -
        refine g_iret dX12_toyIs_163 rfl (by decide) (by decide) ?_
        have e : sToyIs (mo h) (nI t) (nI 8) = (tisF (mo h) t (nI 8), mo h) := by unfold sToyIs; simp only [nI_clamp (show t < 2 ^ 31 by omega)]; exact cif_t c5
        rw [e]
        exact ⟨congrArg (fun z : Int32 => some (vI z)) (show _ = tisF (mo h) t (nI 8) from ((cif_f c17).trans ((cif_f w0).trans ((cif_f w1).trans ((cif_f w2).trans ((cif_f w3).trans ((cif_f w4).trans ((cif_f w5).trans ((cif_f w6).trans ((cif_f w7).trans (cif_t rfl)))))))))).symm), rfl, Mk.rf h⟩
      refine g_tabOut (tgt := 164) dX12_toyIs_36 (tab_out 8 (fun i hi => by rcases (show i = 0 ∨ i = 1 ∨ i = 2 ∨ i = 3 ∨ i = 4 ∨ i = 5 ∨ i = 6 ∨ i = 7 ∨ i = 8 by omega) with rfl | rfl | rfl | rfl | rfl | rfl | rfl | rfl | rfl <;> assumption)) (by decide) ?_
      refine g_iconst (v := -1) (pc' := 165) dX12_toyIs_164 rfl (by decide) ?_
      refine g_iret dX12_toyIs_165 rfl (by decide) (by decide) ?_
      have e : sToyIs (mo h) (nI t) x = (tisF (mo h) t x, mo h) := by unfold sToyIs; simp only [nI_clamp (show t < 2 ^ 31 by omega)]; exact cif_t c5
      rw [e]
      exact ⟨congrArg (fun z : Int32 => some (vI z)) (show _ = tisF (mo h) t x from ((cif_f c17).trans ((cif_f w0).trans ((cif_f w1).trans ((cif_f w2).trans ((cif_f w3).trans ((cif_f w4).trans ((cif_f w5).trans ((cif_f w6).trans ((cif_f w7).trans (cif_f w8)))))))))).symm), rfl, Mk.rf h⟩
    ·
      have k17 := sort_iff.mp c17
      obtain ⟨i, hi, e17⟩ := k17
      refine g_aload_n (pc' := 21) dX12_toyIs_20 rfl rfl ?_
      refine g_getS (pc' := 24) (k := 25) (b := (125, 0)) dX12_toyIs_21 rfl rfl ck_13 (by decide) fl_X12_66 rfl hs rfl ?_
      refine g_bipushN (n := 6) (pc' := 26) dX12_toyIs_24 rfl (by decide) ?_
      refine g_iload_n (pc' := 27) dX12_toyIs_26 rfl rfl ?_
      refine g_imulN (pc' := 28) dX12_toyIs_27 rfl ?_
      refine g_iload_n (pc' := 29) dX12_toyIs_28 rfl rfl ?_
      refine g_iadd (pc' := 30) dX12_toyIs_29 rfl ?_
      refine g_bipushN (n := 10) (pc' := 32) dX12_toyIs_30 rfl (by decide) ?_
      refine g_isub (pc' := 33) dX12_toyIs_32 rfl ?_
      rw [show nI (6 * t) + x - nI 10 = nI (6 * t + i) by rw [← nI_add, ← e17, Int32.sub_eq_add_neg, Int32.sub_eq_add_neg, Int32.add_assoc]]
      refine g_ialdN (pc' := 34) (v := _) dX12_toyIs_33 rfl rfl (by decide) (by omega) (rfl) ?_
      refine g_iret dX12_toyIs_34 rfl (by decide) (by decide) ?_
      have e : sToyIs (mo h) (nI t) x = (tisF (mo h) t x, mo h) := by unfold sToyIs; simp only [nI_clamp (show t < 2 ^ 31 by omega)]; exact cif_t c5
      rw [e]
      refine ⟨congrArg (fun z : Int32 => some (vI z)) (show _ = tisF (mo h) t x from ((cif_t c17).trans ?_).symm), rfl, Mk.rf h⟩
      rw [e17, nI_clamp (by omega)]
      rfl
  ·
    refine g_iconst (v := -1) (pc' := 9) dX12_toyIs_8 rfl (by decide) ?_
    refine g_iret dX12_toyIs_9 rfl (by decide) (by decide) ?_
    have e : sToyIs (mo h) t0 x = (-1, mo h) := cif_f (fun z => c5 z)
    rw [e]
    exact ⟨rfl, rfl, Mk.rf h⟩
