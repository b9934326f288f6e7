set_option maxRecDepth 4000 in
theorem cm_notForV {E : En} (hok : EOK E) {h : Hp} (hs : Shp h.2) (hw : Wf (mo h)) {R : Rm} (hR : WR (mo h) R) {t f : Nat} (ht : t < nT (mo h)) (hf : f < nF (mo h)) : Call E m_X12_notFor 6 0 0 [vR MO, vI (nI t), vI (nI f)] h (fun r h' => r = some (vI (nI (ntF (mo h) R t f))) ∧ mo h' = mo h ∧ Mk h h' ∧ h'.1 (190, 0) = h.1 (190, 0)) := by
  have hw := hw
  have hNw : h.1 MO 2 = nI (nW (mo h)) := hw.w.1
  have hNwb := hw.w.2
  have hC : h.1 MO 30 = nI (nC (mo h)) := hw.c.1
  have hCb := hw.c.2
  have hK : h.1 MO 3 = nI (nK (mo h)) := hw.k.1
  have hKb := hw.k.2
  have hT : h.1 MO 4 = nI (nT (mo h)) := hw.t.1
  have hTb := hw.t.2
  have hF : h.1 MO 5 = nI (nF (mo h)) := hw.f.1
  have hFb := hw.f.2
  have hRc : h.1 MO 59 = nI (nR (mo h)) := hw.r.1
  have hRb := hw.r.2
  have hG : h.1 MO 60 = nI (nGf (mo h)) := hw.g.1
  have hGb := hw.g.2
  have hA : h.1 MO 70 = nI (nA (mo h)) := hw.a.1
  have hAb := hw.a.2
  have hTl : h.1 MO 1 = nI (nTl (mo h)) := hw.tl.1
  have hTlb := hw.tl.2
  have hkd := (hw.kd ht).2
  refine Call.enter hok (by decide) (Nat.le_of_ble_eq_true rfl) ?_
  show G E m_X12_notFor 6 0 0 _ h 0 [some (vR MO), some (vI (nI t)), some (vI (nI f))] [] h 0 0
  refine g_aload_n (pc' := 1) dX12_notFor_0 rfl rfl ?_
  refine g_getS (pc' := 4) (k := 18) (b := (118, 0)) dX12_notFor_1 rfl rfl ck_13 (by decide) fl_X12_44 rfl hs rfl ?_
  refine g_iload_n (pc' := 5) dX12_notFor_4 rfl rfl ?_
  refine g_ialdN (pc' := 6) (v := _) dX12_notFor_5 rfl rfl (by decide) (by omega) (rfl) ?_
  refine g_if_eq (tgt := 11) (pc' := 9) dX12_notFor_6 rfl (by decide) (fun c6 => ?_) (fun c6 => ?_)
  ·
    refine g_aload_n (pc' := 12) dX12_notFor_11 rfl rfl ?_
    refine g_getS (pc' := 15) (k := 24) (b := (124, 0)) dX12_notFor_12 rfl rfl ck_13 (by decide) fl_X12_62 rfl hs rfl ?_
    refine g_iload_n (pc' := 16) dX12_notFor_15 rfl rfl ?_
    refine g_zaldN (pc' := 17) (v := _) dX12_notFor_16 rfl rfl (by decide) (by omega) (rfl) ?_
    refine g_if_eq (tgt := 22) (pc' := 20) dX12_notFor_17 rfl (by decide) (fun c17 => ?_) (fun c17 => ?_)
    ·
      refine g_aload_n (pc' := 23) dX12_notFor_22 rfl rfl ?_
      refine g_iload_n (pc' := 24) dX12_notFor_23 rfl rfl ?_
      refine g_invV (pc' := 27) (cm_isRecalled hok hs hw (t := t) (by omega)) dX12_notFor_24 rfl rfl ck_13 rfl ml_X12_452 im_X12_isRecalled sl_X12_isRecalled in_X12 co_X12_isRecalled pd_X12_isRecalled rfl (by omega) (by decide) ⟨by decide, by decide⟩ (Nat.le_of_ble_eq_true rfl) ?_
      rintro _ _ ⟨rfl, rfl⟩ -
      refine g_ifB_eq (tgt := 32) (pc' := 30) dX12_notFor_27 rfl (by decide) (fun c27 => ?_) (fun c27 => ?_)
      ·
        refine g_aload_n (pc' := 33) dX12_notFor_32 rfl rfl ?_
        refine g_getS (pc' := 36) (k := 17) (b := (117, 0)) dX12_notFor_33 rfl rfl ck_13 (by decide) fl_X12_41 rfl hs rfl ?_
        refine g_iload_n (pc' := 37) dX12_notFor_36 rfl rfl ?_
        refine g_ialdN (pc' := 38) (v := _) dX12_notFor_37 rfl rfl (by decide) (by omega) (rfl) ?_
        refine g_aload_n (pc' := 39) dX12_notFor_38 rfl rfl ?_
        refine g_getS (pc' := 42) (k := 12) (b := (112, 0)) dX12_notFor_39 rfl rfl ck_13 (by decide) fl_X12_26 rfl hs rfl ?_
        refine g_aload_n (pc' := 43) dX12_notFor_42 rfl rfl ?_
        refine g_getS (pc' := 46) (k := 15) (b := (115, 0)) dX12_notFor_43 rfl rfl ck_13 (by decide) fl_X12_35 rfl hs rfl ?_
        refine g_iload_n (pc' := 47) dX12_notFor_46 rfl rfl ?_
        refine g_ialdN (pc' := 48) (v := nI (kd (mo h) t)) dX12_notFor_47 rfl rfl (by decide) (by omega) ((hw.kd ht).1) ?_
        refine g_ialdN (pc' := 49) (v := _) dX12_notFor_48 rfl rfl (by decide) (by omega) (rfl) ?_
        refine g_icmp_lt (tgt := 54) (pc' := 52) dX12_notFor_49 rfl (by decide) (fun c49 => ?_) (fun c49 => ?_)
        ·
          refine g_aload_n (pc' := 55) dX12_notFor_54 rfl rfl ?_
          refine g_iload_n (pc' := 56) dX12_notFor_55 rfl rfl ?_
          refine g_iload_n (pc' := 57) dX12_notFor_56 rfl rfl ?_
          refine g_invV (pc' := 60) (cm_isBarred hok hs hw (t := t) (f := f) (by omega) (by omega)) dX12_notFor_57 rfl rfl ck_13 rfl ml_X12_455 im_X12_isBarred sl_X12_isBarred in_X12 co_X12_isBarred pd_X12_isBarred rfl (by omega) (by decide) ⟨by decide, by decide⟩ (Nat.le_of_ble_eq_true rfl) ?_
          rintro _ _ ⟨rfl, rfl⟩ -
          refine g_ifB_eq (tgt := 65) (pc' := 63) dX12_notFor_60 rfl (by decide) (fun c60 => ?_) (fun c60 => ?_)
          ·
            refine g_aload_n (pc' := 66) dX12_notFor_65 rfl rfl ?_
            refine g_aload_n (pc' := 67) dX12_notFor_66 rfl rfl ?_
            refine g_getS (pc' := 70) (k := 15) (b := (115, 0)) dX12_notFor_67 rfl rfl ck_13 (by decide) fl_X12_35 rfl hs rfl ?_
            refine g_iload_n (pc' := 71) dX12_notFor_70 rfl rfl ?_
            refine g_ialdN (pc' := 72) (v := nI (kd (mo h) t)) dX12_notFor_71 rfl rfl (by decide) (by omega) ((hw.kd ht).1) ?_
            refine g_iload_n (pc' := 73) dX12_notFor_72 rfl rfl ?_
            refine g_iload_n (pc' := 74) dX12_notFor_73 rfl rfl ?_
            refine g_iconstN (n := 0) (pc' := 75) dX12_notFor_74 rfl ?_
            refine g_invV (pc' := 78) (cm_stands hok hs _ _ _ _) dX12_notFor_75 rfl rfl ck_13 rfl ml_X12_458 im_X12_stands sl_X12_stands in_X12 co_X12_stands pd_X12_stands rfl (by omega) (by decide) ⟨by decide, by decide⟩ (Nat.le_of_ble_eq_true rfl) ?_
            rintro _ _ ⟨rfl, rfl⟩ -
            have hq1 := Hq_std hs (kd (mo h) t) (nI t) f 0
            refine g_aload_n (pc' := 79) dX12_notFor_78 rfl rfl ?_
            refine g_bipushN (n := 97) (pc' := 81) dX12_notFor_79 rfl (by decide) ?_
            refine g_invV (pc' := 84) (cm_allR hok hw hR (Lv_T hok hw ht hf 0) hq1 _) dX12_notFor_81 rfl rfl ck_13 rfl ml_X12_462 im_X12_all sl_X12_all in_X12 co_X12_all pd_X12_all rfl (by omega) (by decide) ⟨by decide, by decide⟩ (Nat.le_of_ble_eq_true rfl) ?_
            rintro _ h2 ⟨rfl, w2⟩ -
            have hq2 := hq1.wk w2
            refine g_ifB_ne (tgt := 92) (pc' := 87) dX12_notFor_84 rfl (by decide) (fun c84 => ?_) (fun c84 => ?_)
            ·
              refine g_aload_n (pc' := 93) dX12_notFor_92 rfl rfl ?_
              refine g_bipushN (n := 117) (pc' := 95) dX12_notFor_93 rfl (by decide) ?_
              refine g_invV (pc' := 98) (cm_someR hok hw hR (Lv_T hok hw ht hf 0) hq2 _) dX12_notFor_95 rfl rfl ck_13 rfl ml_X12_465 im_X12_some sl_X12_some in_X12 co_X12_some pd_X12_some rfl (by omega) (by decide) ⟨by decide, by decide⟩ (Nat.le_of_ble_eq_true rfl) ?_
              rintro _ h3 ⟨rfl, w3⟩ -
              have hq3 := hq2.wk w3
              refine g_ifB_eq (tgt := 106) (pc' := 101) dX12_notFor_98 rfl (by decide) (fun c98 => ?_) (fun c98 => ?_)
              ·
                refine g_iconstN (n := 0) (pc' := 107) dX12_notFor_106 rfl ?_
                refine g_iret dX12_notFor_107 rfl (by decide) (by decide) ?_
                have e : ntF (mo h) R t f = 0 := (cif_f (fun z => z c6)).trans ((cif_f (fun z => z c17)).trans ((cif_f c27).trans ((cif_f (fun z => absurd c49 (Int32.not_lt.mpr z))).trans ((cif_f c60).trans ((cif_f (fun z => z c84)).trans (cif_f c98))))))
                exact ⟨congrArg (fun z : Nat => some (vI (nI z))) e.symm, hq3.2.1, (((Mk.rf h).std _ _ _ _).tr w2.mk).tr w3.mk, (w3.2.1 (190, 0) (by decide) (by decide)).trans (w2.2.1 (190, 0) (by decide) (by decide))⟩
              ·
                refine g_bipushN (n := 7) (pc' := 103) dX12_notFor_101 rfl (by decide) ?_
                refine g_goto (tgt := 107) dX12_notFor_103 (by decide) ?_
                refine g_iret dX12_notFor_107 rfl (by decide) (by decide) ?_
                have e : ntF (mo h) R t f = 7 := (cif_f (fun z => z c6)).trans ((cif_f (fun z => z c17)).trans ((cif_f c27).trans ((cif_f (fun z => absurd c49 (Int32.not_lt.mpr z))).trans ((cif_f c60).trans ((cif_f (fun z => z c84)).trans (cif_t c98))))))
                exact ⟨congrArg (fun z : Nat => some (vI (nI z))) e.symm, hq3.2.1, (((Mk.rf h).std _ _ _ _).tr w2.mk).tr w3.mk, (w3.2.1 (190, 0) (by decide) (by decide)).trans (w2.2.1 (190, 0) (by decide) (by decide))⟩
            ·
              refine g_bipushN (n := 6) (pc' := 89) dX12_notFor_87 rfl (by decide) ?_
              refine g_goto (tgt := 107) dX12_notFor_89 (by decide) ?_
              refine g_iret dX12_notFor_107 rfl (by decide) (by decide) ?_
              have e : ntF (mo h) R t f = 6 := (cif_f (fun z => z c6)).trans ((cif_f (fun z => z c17)).trans ((cif_f c27).trans ((cif_f (fun z => absurd c49 (Int32.not_lt.mpr z))).trans ((cif_f c60).trans (cif_t c84)))))
              exact ⟨congrArg (fun z : Nat => some (vI (nI z))) e.symm, hq2.2.1, ((Mk.rf h).std _ _ _ _).tr w2.mk, w2.2.1 (190, 0) (by decide) (by decide)⟩
          ·
            refine g_iconstN (n := 5) (pc' := 64) dX12_notFor_63 rfl ?_
            refine g_iret dX12_notFor_64 rfl (by decide) (by decide) ?_
            have e : ntF (mo h) R t f = 5 := (cif_f (fun z => z c6)).trans ((cif_f (fun z => z c17)).trans ((cif_f c27).trans ((cif_f (fun z => absurd c49 (Int32.not_lt.mpr z))).trans (cif_t c60))))
            exact ⟨congrArg (fun z : Nat => some (vI (nI z))) e.symm, rfl, Mk.rf h, rfl⟩
        ·
          refine g_iconstN (n := 4) (pc' := 53) dX12_notFor_52 rfl ?_
          refine g_iret dX12_notFor_53 rfl (by decide) (by decide) ?_
          have e : ntF (mo h) R t f = 4 := (cif_f (fun z => z c6)).trans ((cif_f (fun z => z c17)).trans ((cif_f c27).trans (cif_t (Int32.not_lt.mp c49))))
          exact ⟨congrArg (fun z : Nat => some (vI (nI z))) e.symm, rfl, Mk.rf h, rfl⟩
      ·
        refine g_iconstN (n := 3) (pc' := 31) dX12_notFor_30 rfl ?_
        refine g_iret dX12_notFor_31 rfl (by decide) (by decide) ?_
        have e : ntF (mo h) R t f = 3 := (cif_f (fun z => z c6)).trans ((cif_f (fun z => z c17)).trans (cif_t c27))
        exact ⟨congrArg (fun z : Nat => some (vI (nI z))) e.symm, rfl, Mk.rf h, rfl⟩
    ·
      refine g_iconstN (n := 2) (pc' := 21) dX12_notFor_20 rfl ?_
      refine g_iret dX12_notFor_21 rfl (by decide) (by decide) ?_
      have e : ntF (mo h) R t f = 2 := (cif_f (fun z => z c6)).trans (cif_t c17)
      exact ⟨congrArg (fun z : Nat => some (vI (nI z))) e.symm, rfl, Mk.rf h, rfl⟩
  ·
    refine g_iconstN (n := 1) (pc' := 10) dX12_notFor_9 rfl ?_
    refine g_iret dX12_notFor_10 rfl (by decide) (by decide) ?_
    have e : ntF (mo h) R t f = 1 := cif_t c6
    exact ⟨congrArg (fun z : Nat => some (vI (nI z))) e.symm, rfl, Mk.rf h, rfl⟩
