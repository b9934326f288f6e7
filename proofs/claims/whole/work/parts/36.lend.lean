/-- why a toy could not be lent to a family; 0: it could -/
noncomputable def ntF (m : St) (R : Rm) (t f : Nat) : Nat := cif (¬ m 118 t = 0) 1 (cif (¬ m 124 t = 0) 2 (cif (isRec m t) 3 (cif (m 112 (kd m t) ≤ m 117 t) 4 (cif (barred m t f) 5 (cif (¬ alP m R (envT m t f 0) (nI 97)) 6 (cif (smP m R (envT m t f 0) (nI 117)) 7 0))))))
theorem ntF_lt (m : St) (R : Rm) (t f : Nat) : ntF m R t f < 8 := by
  unfold ntF cif
  repeat' split
  all_goals omega
theorem Hq_std {h : Hp} (hs : Shp h.2) (k : Nat) (t : Int32) (f : Nat) (l : Int32) : Hq (mo h) k t f l (stdH h (nI k) t (nI f) l) := ⟨hs, mo_std h _ _ _ _, rfl, rfl, rfl, rfl⟩
set_option maxRecDepth 4000 in
theorem cm_notFor {E : En} (hok : EOK E) {h : Hp} (hs : Shp h.2) (hw : Wf (mo h)) {R : Rm} (hR : WR (mo h) R) {t f : Nat} (ht : t < nT (mo h)) (hf : f < nF (mo h)) : Call E m_X12_notFor 6 0 0 [vR MO, vI (nI t), vI (nI f)] h (fun r h' => r = some (vI (nI (ntF (mo h) R t f))) ∧ mo h' = mo h ∧ Mk h h' ∧ (ntF (mo h) R t f = 0 → Hq (mo h) (kd (mo h) t) (nI t) f 0 h')) := by
  have hw := hw
  have hNw : h.1 MO 2 = nI (nW (mo h)) := hw.w.1
  have hNwb := hw.w.2
  have hC : h.1 MO 30 = nI (nC (mo h)) := hw.c.1
  have hCb := hw.c.2
  have hK : h.1 MO 3 = nI (nK (mo h)) := hw.k.1
  have hKb := hw.k.2
  have hT : h.1 MO 4 = nI (nT (mo h)) := hw.t.1
  have hTb := hw.t.2
  have hF : h.1 MO 5 = nI (nF (mo h)) := hw.f.1
  have hFb := hw.f.2
  have hRc : h.1 MO 59 = nI (nR (mo h)) := hw.r.1
  have hRb := hw.r.2
  have hG : h.1 MO 60 = nI (nGf (mo h)) := hw.g.1
  have hGb := hw.g.2
  have hA : h.1 MO 70 = nI (nA (mo h)) := hw.a.1
  have hAb := hw.a.2
  have hTl : h.1 MO 1 = nI (nTl (mo h)) := hw.tl.1
  have hTlb := hw.tl.2
  have hkd := (hw.kd ht).2
  refine Call.enter hok (by decide) (Nat.le_of_ble_eq_true rfl) ?_
  show G E m_X12_notFor 6 0 0 _ h 0 [some (vR MO), some (vI (nI t)), some (vI (nI f))] [] h 0 0
  refine g_aload_n (pc' := 1) dX12_notFor_0 rfl rfl ?_
  refine g_getS (pc' := 4) (k := 18) (b := (118, 0)) dX12_notFor_1 rfl rfl ck_13 (by decide) fl_X12_44 rfl hs rfl ?_
  refine g_iload_n (pc' := 5) dX12_notFor_4 rfl rfl ?_
  refine g_ialdN (pc' := 6) (v := _) dX12_notFor_5 rfl rfl (by decide) (by omega) (rfl) ?_
  refine g_if_eq (tgt := 11) (pc' := 9) dX12_notFor_6 rfl (by decide) (fun c6 => ?_) (fun c6 => ?_)
  ·
    refine g_aload_n (pc' := 12) dX12_notFor_11 rfl rfl ?_
    refine g_getS (pc' := 15) (k := 24) (b := (124, 0)) dX12_notFor_12 rfl rfl ck_13 (by decide) fl_X12_62 rfl hs rfl ?_
    refine g_iload_n (pc' := 16) dX12_notFor_15 rfl rfl ?_
    refine g_zaldN (pc' := 17) (v := _) dX12_notFor_16 rfl rfl (by decide) (by omega) (rfl) ?_
    refine g_if_eq (tgt := 22) (pc' := 20) dX12_notFor_17 rfl (by decide) (fun c17 => ?_) (fun c17 => ?_)
    ·
      refine g_aload_n (pc' := 23) dX12_notFor_22 rfl rfl ?_
      refine g_iload_n (pc' := 24) dX12_notFor_23 rfl rfl ?_
      refine g_invV (pc' := 27) (cm_isRecalled hok hs hw (t := t) (by omega)) dX12_notFor_24 rfl rfl ck_13 rfl ml_X12_452 im_X12_isRecalled sl_X12_isRecalled in_X12 co_X12_isRecalled pd_X12_isRecalled rfl (by omega) (by decide) ⟨by decide, by decide⟩ (Nat.le_of_ble_eq_true rfl) ?_
      rintro _ _ ⟨rfl, rfl⟩ -
      refine g_ifB_eq (tgt := 32) (pc' := 30) dX12_notFor_27 rfl (by decide) (fun c27 => ?_) (fun c27 => ?_)
      ·
        refine g_aload_n (pc' := 33) dX12_notFor_32 rfl rfl ?_
        refine g_getS (pc' := 36) (k := 17) (b := (117, 0)) dX12_notFor_33 rfl rfl ck_13 (by decide) fl_X12_41 rfl hs rfl ?_
        refine g_iload_n (pc' := 37) dX12_notFor_36 rfl rfl ?_
        refine g_ialdN (pc' := 38) (v := _) dX12_notFor_37 rfl rfl (by decide) (by omega) (rfl) ?_
        refine g_aload_n (pc' := 39) dX12_notFor_38 rfl rfl ?_
        refine g_getS (pc' := 42) (k := 12) (b := (112, 0)) dX12_notFor_39 rfl rfl ck_13 (by decide) fl_X12_26 rfl hs rfl ?_
        refine g_aload_n (pc' := 43) dX12_notFor_42 rfl rfl ?_
        refine g_getS (pc' := 46) (k := 15) (b := (115, 0)) dX12_notFor_43 rfl rfl ck_13 (by decide) fl_X12_35 rfl hs rfl ?_
        refine g_iload_n (pc' := 47) dX12_notFor_46 rfl rfl ?_
        refine g_ialdN (pc' := 48) (v := nI (kd (mo h) t)) dX12_notFor_47 rfl rfl (by decide) (by omega) ((hw.kd ht).1) ?_
        refine g_ialdN (pc' := 49) (v := _) dX12_notFor_48 rfl rfl (by decide) (by omega) (rfl) ?_
        refine g_icmp_lt (tgt := 54) (pc' := 52) dX12_notFor_49 rfl (by decide) (fun c49 => ?_) (fun c49 => ?_)
        ·
          refine g_aload_n (pc' := 55) dX12_notFor_54 rfl rfl ?_
          refine g_iload_n (pc' := 56) dX12_notFor_55 rfl rfl ?_
          refine g_iload_n (pc' := 57) dX12_notFor_56 rfl rfl ?_
          refine g_invV (pc' := 60) (cm_isBarred hok hs hw (t := t) (f := f) (by omega) (by omega)) dX12_notFor_57 rfl rfl ck_13 rfl ml_X12_455 im_X12_isBarred sl_X12_isBarred in_X12 co_X12_isBarred pd_X12_isBarred rfl (by omega) (by decide) ⟨by decide, by decide⟩ (Nat.le_of_ble_eq_true rfl) ?_
          rintro _ _ ⟨rfl, rfl⟩ -
          refine g_ifB_eq (tgt := 65) (pc' := 63) dX12_notFor_60 rfl (by decide) (fun c60 => ?_) (fun c60 => ?_)
          ·
            refine g_aload_n (pc' := 66) dX12_notFor_65 rfl rfl ?_
            refine g_aload_n (pc' := 67) dX12_notFor_66 rfl rfl ?_
            refine g_getS (pc' := 70) (k := 15) (b := (115, 0)) dX12_notFor_67 rfl rfl ck_13 (by decide) fl_X12_35 rfl hs rfl ?_
            refine g_iload_n (pc' := 71) dX12_notFor_70 rfl rfl ?_
            refine g_ialdN (pc' := 72) (v := nI (kd (mo h) t)) dX12_notFor_71 rfl rfl (by decide) (by omega) ((hw.kd ht).1) ?_
            refine g_iload_n (pc' := 73) dX12_notFor_72 rfl rfl ?_
            refine g_iload_n (pc' := 74) dX12_notFor_73 rfl rfl ?_
            refine g_iconstN (n := 0) (pc' := 75) dX12_notFor_74 rfl ?_
            refine g_invV (pc' := 78) (cm_stands hok hs _ _ _ _) dX12_notFor_75 rfl rfl ck_13 rfl ml_X12_458 im_X12_stands sl_X12_stands in_X12 co_X12_stands pd_X12_stands rfl (by omega) (by decide) ⟨by decide, by decide⟩ (Nat.le_of_ble_eq_true rfl) ?_
            rintro _ _ ⟨rfl, rfl⟩ -
            have hq1 := Hq_std hs (kd (mo h) t) (nI t) f 0
            refine g_aload_n (pc' := 79) dX12_notFor_78 rfl rfl ?_
            refine g_bipushN (n := 97) (pc' := 81) dX12_notFor_79 rfl (by decide) ?_
            refine g_invV (pc' := 84) (cm_allR hok hw hR (Lv_T hok hw ht hf 0) hq1 _) dX12_notFor_81 rfl rfl ck_13 rfl ml_X12_462 im_X12_all sl_X12_all in_X12 co_X12_all pd_X12_all rfl (by omega) (by decide) ⟨by decide, by decide⟩ (Nat.le_of_ble_eq_true rfl) ?_
            rintro _ h2 ⟨rfl, w2⟩ -
            have hq2 := hq1.wk w2
            refine g_ifB_ne (tgt := 92) (pc' := 87) dX12_notFor_84 rfl (by decide) (fun c84 => ?_) (fun c84 => ?_)
            ·
              refine g_aload_n (pc' := 93) dX12_notFor_92 rfl rfl ?_
              refine g_bipushN (n := 117) (pc' := 95) dX12_notFor_93 rfl (by decide) ?_
              refine g_invV (pc' := 98) (cm_someR hok hw hR (Lv_T hok hw ht hf 0) hq2 _) dX12_notFor_95 rfl rfl ck_13 rfl ml_X12_465 im_X12_some sl_X12_some in_X12 co_X12_some pd_X12_some rfl (by omega) (by decide) ⟨by decide, by decide⟩ (Nat.le_of_ble_eq_true rfl) ?_
              rintro _ h3 ⟨rfl, w3⟩ -
              have hq3 := hq2.wk w3
              refine g_ifB_eq (tgt := 106) (pc' := 101) dX12_notFor_98 rfl (by decide) (fun c98 => ?_) (fun c98 => ?_)
              ·
                refine g_iconstN (n := 0) (pc' := 107) dX12_notFor_106 rfl ?_
                refine g_iret dX12_notFor_107 rfl (by decide) (by decide) ?_
                have e : ntF (mo h) R t f = 0 := (cif_f (fun z => z c6)).trans ((cif_f (fun z => z c17)).trans ((cif_f c27).trans ((cif_f (fun z => absurd c49 (Int32.not_lt.mpr z))).trans ((cif_f c60).trans ((cif_f (fun z => z c84)).trans (cif_f c98))))))
                exact ⟨congrArg (fun z : Nat => some (vI (nI z))) e.symm, hq3.2.1, (((Mk.rf h).std _ _ _ _).tr w2.mk).tr w3.mk, fun _ => hq3⟩
              ·
                refine g_bipushN (n := 7) (pc' := 103) dX12_notFor_101 rfl (by decide) ?_
                refine g_goto (tgt := 107) dX12_notFor_103 (by decide) ?_
                refine g_iret dX12_notFor_107 rfl (by decide) (by decide) ?_
                have e : ntF (mo h) R t f = 7 := (cif_f (fun z => z c6)).trans ((cif_f (fun z => z c17)).trans ((cif_f c27).trans ((cif_f (fun z => absurd c49 (Int32.not_lt.mpr z))).trans ((cif_f c60).trans ((cif_f (fun z => z c84)).trans (cif_t c98))))))
                exact ⟨congrArg (fun z : Nat => some (vI (nI z))) e.symm, hq3.2.1, (((Mk.rf h).std _ _ _ _).tr w2.mk).tr w3.mk, fun z => by rw [e] at z; cases z⟩
            ·
              refine g_bipushN (n := 6) (pc' := 89) dX12_notFor_87 rfl (by decide) ?_
              refine g_goto (tgt := 107) dX12_notFor_89 (by decide) ?_
              refine g_iret dX12_notFor_107 rfl (by decide) (by decide) ?_
              have e : ntF (mo h) R t f = 6 := (cif_f (fun z => z c6)).trans ((cif_f (fun z => z c17)).trans ((cif_f c27).trans ((cif_f (fun z => absurd c49 (Int32.not_lt.mpr z))).trans ((cif_f c60).trans (cif_t c84)))))
              exact ⟨congrArg (fun z : Nat => some (vI (nI z))) e.symm, hq2.2.1, ((Mk.rf h).std _ _ _ _).tr w2.mk, fun z => by rw [e] at z; cases z⟩
          ·
            refine g_iconstN (n := 5) (pc' := 64) dX12_notFor_63 rfl ?_
            refine g_iret dX12_notFor_64 rfl (by decide) (by decide) ?_
            have e : ntF (mo h) R t f = 5 := (cif_f (fun z => z c6)).trans ((cif_f (fun z => z c17)).trans ((cif_f c27).trans ((cif_f (fun z => absurd c49 (Int32.not_lt.mpr z))).trans (cif_t c60))))
            exact ⟨congrArg (fun z : Nat => some (vI (nI z))) e.symm, rfl, Mk.rf h, fun z => by rw [e] at z; cases z⟩
        ·
          refine g_iconstN (n := 4) (pc' := 53) dX12_notFor_52 rfl ?_
          refine g_iret dX12_notFor_53 rfl (by decide) (by decide) ?_
          have e : ntF (mo h) R t f = 4 := (cif_f (fun z => z c6)).trans ((cif_f (fun z => z c17)).trans ((cif_f c27).trans (cif_t (Int32.not_lt.mp c49))))
          exact ⟨congrArg (fun z : Nat => some (vI (nI z))) e.symm, rfl, Mk.rf h, fun z => by rw [e] at z; cases z⟩
      ·
        refine g_iconstN (n := 3) (pc' := 31) dX12_notFor_30 rfl ?_
        refine g_iret dX12_notFor_31 rfl (by decide) (by decide) ?_
        have e : ntF (mo h) R t f = 3 := (cif_f (fun z => z c6)).trans ((cif_f (fun z => z c17)).trans (cif_t c27))
        exact ⟨congrArg (fun z : Nat => some (vI (nI z))) e.symm, rfl, Mk.rf h, fun z => by rw [e] at z; cases z⟩
    ·
      refine g_iconstN (n := 2) (pc' := 21) dX12_notFor_20 rfl ?_
      refine g_iret dX12_notFor_21 rfl (by decide) (by decide) ?_
      have e : ntF (mo h) R t f = 2 := (cif_f (fun z => z c6)).trans (cif_t c17)
      exact ⟨congrArg (fun z : Nat => some (vI (nI z))) e.symm, rfl, Mk.rf h, fun z => by rw [e] at z; cases z⟩
  ·
    refine g_iconstN (n := 1) (pc' := 10) dX12_notFor_9 rfl ?_
    refine g_iret dX12_notFor_10 rfl (by decide) (by decide) ?_
    have e : ntF (mo h) R t f = 1 := cif_t c6
    exact ⟨congrArg (fun z : Nat => some (vI (nI z))) e.symm, rfl, Mk.rf h, fun z => by rw [e] at z; cases z⟩
noncomputable def sNot (m : St) (R : Rm) (t0 f0 : Int32) : Int32 × St := cif ((∃ j : Nat, j < nT m ∧ t0 = nI j) ∧ (∃ j : Nat, j < nF m ∧ f0 = nI j)) (nI (ntF m R t0.toNatClampNeg f0.toNatClampNeg), m) (-1, m)
set_option maxRecDepth 4000 in
theorem cm_not {E : En} (hok : EOK E) {h : Hp} (hs : Shp h.2) (hw : Wf (mo h)) (hx : Wx (mo h)) {R : Rm} (hR : WR (mo h) R) (t0 : Int32) (f0 : Int32) : Call E m_X12_not 7 0 0 [vR MO, vI t0, vI f0] h (fun r h' => r = some (vI (sNot (mo h) R t0 f0).1) ∧ mo h' = (sNot (mo h) R t0 f0).2 ∧ Mk h h') := by
  have hNw : h.1 MO 2 = nI (nW (mo h)) := hw.w.1
  have hNwb := hw.w.2
  have hC : h.1 MO 30 = nI (nC (mo h)) := hw.c.1
  have hCb := hw.c.2
  have hK : h.1 MO 3 = nI (nK (mo h)) := hw.k.1
  have hKb := hw.k.2
  have hT : h.1 MO 4 = nI (nT (mo h)) := hw.t.1
  have hTb := hw.t.2
  have hF : h.1 MO 5 = nI (nF (mo h)) := hw.f.1
  have hFb := hw.f.2
  have hRc : h.1 MO 59 = nI (nR (mo h)) := hw.r.1
  have hRb := hw.r.2
  have hG : h.1 MO 60 = nI (nGf (mo h)) := hw.g.1
  have hGb := hw.g.2
  have hA : h.1 MO 70 = nI (nA (mo h)) := hw.a.1
  have hAb := hw.a.2
  have hTl : h.1 MO 1 = nI (nTl (mo h)) := hw.tl.1
  have hTlb := hw.tl.2
  refine Call.enter hok (by decide) (Nat.le_of_ble_eq_true rfl) ?_
  show G E m_X12_not 7 0 0 _ h 0 [some (vR MO), some (vI t0), some (vI f0)] [] h 0 0
  refine g_aload_n (pc' := 1) dX12_not_0 rfl rfl ?_
  refine g_iload_n (pc' := 2) dX12_not_1 rfl rfl ?_
  refine g_invV (pc' := 5) (cm_isToy hok hw _) dX12_not_2 rfl rfl ck_13 rfl ml_X12_443 im_X12_isToy sl_X12_isToy in_X12 co_X12_isToy pd_X12_isToy rfl (by omega) (by decide) ⟨by decide, by decide⟩ (Nat.le_of_ble_eq_true rfl) ?_
  rintro _ _ ⟨rfl, rfl⟩ -
  refine g_ifB_eq (tgt := 25) (pc' := 8) dX12_not_5 rfl (by decide) (fun c5 => ?_) (fun c5 => ?_)
  ·
    refine g_iconst (v := -1) (pc' := 26) dX12_not_25 rfl (by decide) ?_
    refine g_iret dX12_not_26 rfl (by decide) (by decide) ?_
    have e : sNot (mo h) R t0 f0 = (-1, mo h) := cif_f (fun z => c5 z.1)
    rw [e]
    exact ⟨rfl, rfl, Mk.rf h⟩
  ·
    have k5 := c5
    obtain ⟨t, ht, rfl⟩ := k5
    refine g_aload_n (pc' := 9) dX12_not_8 rfl rfl ?_
    refine g_iload_n (pc' := 10) dX12_not_9 rfl rfl ?_
    refine g_invV (pc' := 13) (cm_isFamily hok hw _) dX12_not_10 rfl rfl ck_13 rfl ml_X12_435 im_X12_isFamily sl_X12_isFamily in_X12 co_X12_isFamily pd_X12_isFamily rfl (by omega) (by decide) ⟨by decide, by decide⟩ (Nat.le_of_ble_eq_true rfl) ?_
    rintro _ _ ⟨rfl, rfl⟩ -
    refine g_ifB_eq (tgt := 25) (pc' := 16) dX12_not_13 rfl (by decide) (fun c13 => ?_) (fun c13 => ?_)
    ·
      refine g_iconst (v := -1) (pc' := 26) dX12_not_25 rfl (by decide) ?_
      refine g_iret dX12_not_26 rfl (by decide) (by decide) ?_
      have e : sNot (mo h) R (nI t) f0 = (-1, mo h) := cif_f (fun z => c13 z.2)
      rw [e]
      exact ⟨rfl, rfl, Mk.rf h⟩
    ·
      have k13 := c13
      obtain ⟨f, hf, rfl⟩ := k13
      refine g_aload_n (pc' := 17) dX12_not_16 rfl rfl ?_
      refine g_iload_n (pc' := 18) dX12_not_17 rfl rfl ?_
      refine g_iload_n (pc' := 19) dX12_not_18 rfl rfl ?_
      refine g_invV (pc' := 22) (cm_notFor hok hs hw hR (t := t) (f := f) (by omega) (by omega)) dX12_not_19 rfl rfl ck_13 rfl ml_X12_468 im_X12_notFor sl_X12_notFor in_X12 co_X12_notFor pd_X12_notFor rfl (by omega) (by decide) ⟨by decide, by decide⟩ (Nat.le_of_ble_eq_true rfl) ?_
      rintro _ h1 ⟨rfl, e1, k1, z1⟩ -
      have hn8 := ntF_lt (mo h) R t f
      have hs1 : Shp h1.2 := by rw [k1.1]; exact hs
      refine g_goto (tgt := 26) dX12_not_22 (by decide) ?_
      refine g_iret dX12_not_26 rfl (by decide) (by decide) ?_
      have e : sNot (mo h) R (nI t) (nI f) = (nI (ntF (mo h) R t f), mo h) := by unfold sNot; simp only [nI_clamp (show t < 2 ^ 31 by omega), nI_clamp (show f < 2 ^ 31 by omega)]; exact cif_t ⟨c5, c13⟩
      rw [e]
      exact ⟨rfl, e1, k1⟩
noncomputable def dueF (m : St) (R : Rm) (t f : Nat) : Int32 := m 1 2 + tlF m R (envT m t f 0) (nI 100) (nI 1) (nI 200) (nI 21) (nC m) 0
noncomputable def lendS (m : St) (t f : Nat) (du : Int32) : St := wrtS (stU (stU (stU (stU (stU (stU (stU m 120 t du) 118 t (nI 1)) 119 t (nI f)) 121 t (m 1 2)) 122 t (m 122 t + nI 1)) 186 (8 * f + kd m t) (-1)) 1 71 (m 1 71 + nI 1)) (nA m) (nI t) (nI (1 + f))
noncomputable def sLend (m : St) (R : Rm) (t0 f0 : Int32) : Int32 × St := cif ((∃ j : Nat, j < nT m ∧ t0 = nI j) ∧ (∃ j : Nat, j < nF m ∧ f0 = nI j) ∧ ¬ m 1 71 = nI 300 ∧ ntF m R t0.toNatClampNeg f0.toNatClampNeg = 0) (dueF m R t0.toNatClampNeg f0.toNatClampNeg, lendS m t0.toNatClampNeg f0.toNatClampNeg (dueF m R t0.toNatClampNeg f0.toNatClampNeg)) (-1, m)
set_option maxRecDepth 4000 in
theorem cm_lend {E : En} (hok : EOK E) {h : Hp} (hs : Shp h.2) (hw : Wf (mo h)) (hx : Wx (mo h)) {R : Rm} (hR : WR (mo h) R) (t0 : Int32) (f0 : Int32) : Call E m_X12_lend 7 0 0 [vR MO, vI t0, vI f0] h (fun r h' => r = some (vI (sLend (mo h) R t0 f0).1) ∧ mo h' = (sLend (mo h) R t0 f0).2 ∧ Mk h h') := by
  have hNw : h.1 MO 2 = nI (nW (mo h)) := hw.w.1
  have hNwb := hw.w.2
  have hC : h.1 MO 30 = nI (nC (mo h)) := hw.c.1
  have hCb := hw.c.2
  have hK : h.1 MO 3 = nI (nK (mo h)) := hw.k.1
  have hKb := hw.k.2
  have hT : h.1 MO 4 = nI (nT (mo h)) := hw.t.1
  have hTb := hw.t.2
  have hF : h.1 MO 5 = nI (nF (mo h)) := hw.f.1
  have hFb := hw.f.2
  have hRc : h.1 MO 59 = nI (nR (mo h)) := hw.r.1
  have hRb := hw.r.2
  have hG : h.1 MO 60 = nI (nGf (mo h)) := hw.g.1
  have hGb := hw.g.2
  have hA : h.1 MO 70 = nI (nA (mo h)) := hw.a.1
  have hAb := hw.a.2
  have hTl : h.1 MO 1 = nI (nTl (mo h)) := hw.tl.1
  have hTlb := hw.tl.2
  refine Call.enter hok (by decide) (Nat.le_of_ble_eq_true rfl) ?_
  show G E m_X12_lend 7 0 0 _ h 0 [some (vR MO), some (vI t0), some (vI f0)] [] h 0 0
  refine g_aload_n (pc' := 1) dX12_lend_0 rfl rfl ?_
  refine g_iload_n (pc' := 2) dX12_lend_1 rfl rfl ?_
  refine g_invV (pc' := 5) (cm_isToy hok hw _) dX12_lend_2 rfl rfl ck_13 rfl ml_X12_443 im_X12_isToy sl_X12_isToy in_X12 co_X12_isToy pd_X12_isToy rfl (by omega) (by decide) ⟨by decide, by decide⟩ (Nat.le_of_ble_eq_true rfl) ?_
  rintro _ _ ⟨rfl, rfl⟩ -
  refine g_ifB_eq (tgt := 35) (pc' := 8) dX12_lend_5 rfl (by decide) (fun c5 => ?_) (fun c5 => ?_)
  ·
    refine g_iconst (v := -1) (pc' := 36) dX12_lend_35 rfl (by decide) ?_
    refine g_iret dX12_lend_36 rfl (by decide) (by decide) ?_
    have e : sLend (mo h) R t0 f0 = (-1, mo h) := cif_f (fun z => c5 z.1)
    rw [e]
    exact ⟨rfl, rfl, Mk.rf h⟩
  ·
    have k5 := c5
    obtain ⟨t, ht, rfl⟩ := k5
    refine g_aload_n (pc' := 9) dX12_lend_8 rfl rfl ?_
    refine g_iload_n (pc' := 10) dX12_lend_9 rfl rfl ?_
    refine g_invV (pc' := 13) (cm_isFamily hok hw _) dX12_lend_10 rfl rfl ck_13 rfl ml_X12_435 im_X12_isFamily sl_X12_isFamily in_X12 co_X12_isFamily pd_X12_isFamily rfl (by omega) (by decide) ⟨by decide, by decide⟩ (Nat.le_of_ble_eq_true rfl) ?_
    rintro _ _ ⟨rfl, rfl⟩ -
    refine g_ifB_eq (tgt := 35) (pc' := 16) dX12_lend_13 rfl (by decide) (fun c13 => ?_) (fun c13 => ?_)
    ·
      refine g_iconst (v := -1) (pc' := 36) dX12_lend_35 rfl (by decide) ?_
      refine g_iret dX12_lend_36 rfl (by decide) (by decide) ?_
      have e : sLend (mo h) R (nI t) f0 = (-1, mo h) := cif_f (fun z => c13 z.2.1)
      rw [e]
      exact ⟨rfl, rfl, Mk.rf h⟩
    ·
      have k13 := c13
      obtain ⟨f, hf, rfl⟩ := k13
      refine g_aload_n (pc' := 17) dX12_lend_16 rfl rfl ?_
      refine g_getI (pc' := 20) (k := 71) dX12_lend_17 rfl rfl ck_13 (by decide) fl_X12_472 rfl ?_
      refine g_sipushN (n := 300) (pc' := 23) dX12_lend_20 rfl (by decide) ?_
      refine g_icmp_eq (tgt := 35) (pc' := 26) dX12_lend_23 rfl (by decide) (fun c23 => ?_) (fun c23 => ?_)
      ·
        refine g_iconst (v := -1) (pc' := 36) dX12_lend_35 rfl (by decide) ?_
        refine g_iret dX12_lend_36 rfl (by decide) (by decide) ?_
        have e : sLend (mo h) R (nI t) (nI f) = (-1, mo h) := cif_f (fun z => z.2.2.1 c23)
        rw [e]
        exact ⟨rfl, rfl, Mk.rf h⟩
      ·
        refine g_aload_n (pc' := 27) dX12_lend_26 rfl rfl ?_
        refine g_iload_n (pc' := 28) dX12_lend_27 rfl rfl ?_
        refine g_iload_n (pc' := 29) dX12_lend_28 rfl rfl ?_
        refine g_invV (pc' := 32) (cm_notFor hok hs hw hR (t := t) (f := f) (by omega) (by omega)) dX12_lend_29 rfl rfl ck_13 rfl ml_X12_468 im_X12_notFor sl_X12_notFor in_X12 co_X12_notFor pd_X12_notFor rfl (by omega) (by decide) ⟨by decide, by decide⟩ (Nat.le_of_ble_eq_true rfl) ?_
        rintro _ h1 ⟨rfl, e1, k1, z1⟩ -
        have hn8 := ntF_lt (mo h) R t f
        have hs1 : Shp h1.2 := by rw [k1.1]; exact hs
        refine g_if_eqN (tgt := 37) (pc' := 35) dX12_lend_32 rfl (by decide) (by omega) (fun c32 => ?_) (fun c32 => ?_)
        ·
          have hq1 := z1 c32
          have hs := hq1.1
          have hkd := (hw.kd ht).2
          refine g_aload_n (pc' := 38) dX12_lend_37 rfl rfl ?_
          refine g_getS (pc' := 41) (k := 20) (b := (120, 0)) dX12_lend_38 rfl rfl ck_13 (by decide) fl_X12_50 rfl hs rfl ?_
          refine g_iload_n (pc' := 42) dX12_lend_41 rfl rfl ?_
          refine g_aload_n (pc' := 43) dX12_lend_42 rfl rfl ?_
          refine g_getIv (v := mo h 1 2) (pc' := 46) (k := 2) dX12_lend_43 rfl rfl ck_13 (by decide) fl_X12_219 rfl ((show h1.1 MO 2 = mo h 1 2 by rw [← hq1.2.1]; rfl)) ?_
          refine g_aload_n (pc' := 47) dX12_lend_46 rfl rfl ?_
          refine g_bipushN (n := 100) (pc' := 49) dX12_lend_47 rfl (by decide) ?_
          refine g_iconstN (n := 1) (pc' := 50) dX12_lend_49 rfl ?_
          refine g_sipushN (n := 200) (pc' := 53) dX12_lend_50 rfl (by decide) ?_
          refine g_bipushN (n := 21) (pc' := 55) dX12_lend_53 rfl (by decide) ?_
          refine g_invV (pc' := 58) (cm_tells hok hw hR (Lv_T hok hw ht hf 0) hq1 _ _ _ _ (Or.inl rfl)) dX12_lend_55 rfl rfl ck_13 rfl ml_X12_475 im_X12_tells sl_X12_tells in_X12 co_X12_tells pd_X12_tells rfl (by omega) (by decide) ⟨by decide, by decide⟩ (Nat.le_of_ble_eq_true rfl) ?_
          rintro _ h2 ⟨rfl, w2⟩ -
          have hs : Shp h2.2 := (hq1.wk w2).1
          refine g_iadd (pc' := 59) dX12_lend_58 rfl ?_
          refine g_iastN (pc' := 60) dX12_lend_59 rfl rfl (by decide) (by omega) ?_
          refine g_aload_n (pc' := 61) dX12_lend_60 rfl rfl ?_
          refine g_getS (pc' := 64) (k := 18) (b := (118, 0)) dX12_lend_61 rfl rfl ck_13 (by decide) fl_X12_44 rfl hs rfl ?_
          refine g_iload_n (pc' := 65) dX12_lend_64 rfl rfl ?_
          refine g_iconstN (n := 1) (pc' := 66) dX12_lend_65 rfl ?_
          refine g_iastN (pc' := 67) dX12_lend_66 rfl rfl (by decide) (by omega) ?_
          refine g_aload_n (pc' := 68) dX12_lend_67 rfl rfl ?_
          refine g_getS (pc' := 71) (k := 19) (b := (119, 0)) dX12_lend_68 rfl rfl ck_13 (by decide) fl_X12_47 rfl hs rfl ?_
          refine g_iload_n (pc' := 72) dX12_lend_71 rfl rfl ?_
          refine g_iload_n (pc' := 73) dX12_lend_72 rfl rfl ?_
          refine g_iastN (pc' := 74) dX12_lend_73 rfl rfl (by decide) (by omega) ?_
          refine g_aload_n (pc' := 75) dX12_lend_74 rfl rfl ?_
          refine g_getS (pc' := 78) (k := 21) (b := (121, 0)) dX12_lend_75 rfl rfl ck_13 (by decide) fl_X12_53 rfl hs rfl ?_
          refine g_iload_n (pc' := 79) dX12_lend_78 rfl rfl ?_
          refine g_aload_n (pc' := 80) dX12_lend_79 rfl rfl ?_
          refine g_getIv (v := mo h 1 2) (pc' := 83) (k := 2) dX12_lend_80 rfl rfl ck_13 (by decide) fl_X12_219 rfl ((show h2.1 MO 2 = mo h 1 2 by rw [← (hq1.wk w2).2.1]; rfl)) ?_
          refine g_iastN (pc' := 84) dX12_lend_83 rfl rfl (by decide) (by omega) ?_
          refine g_aload_n (pc' := 85) dX12_lend_84 rfl rfl ?_
          refine g_getS (pc' := 88) (k := 22) (b := (122, 0)) dX12_lend_85 rfl rfl ck_13 (by decide) fl_X12_56 rfl hs rfl ?_
          refine g_iload_n (pc' := 89) dX12_lend_88 rfl rfl ?_
          refine g_dup2 (pc' := 90) dX12_lend_89 rfl rfl rfl ?_
          refine g_ialdN (pc' := 91) (v := mo h 122 t) dX12_lend_90 rfl rfl (by decide) (by omega) ((show h2.1 (122, 0) t = mo h 122 t by rw [← (hq1.wk w2).2.1]; rfl)) ?_
          refine g_iconstN (n := 1) (pc' := 92) dX12_lend_91 rfl ?_
          refine g_iadd (pc' := 93) dX12_lend_92 rfl ?_
          refine g_iastN (pc' := 94) dX12_lend_93 rfl rfl (by decide) (by omega) ?_
          refine g_aload_n (pc' := 95) dX12_lend_94 rfl rfl ?_
          refine g_getS (pc' := 98) (k := 86) (b := (186, 0)) dX12_lend_95 rfl rfl ck_13 (by decide) fl_X12_183 rfl hs rfl ?_
          refine g_bipushN (n := 8) (pc' := 100) dX12_lend_98 rfl (by decide) ?_
          refine g_iload_n (pc' := 101) dX12_lend_100 rfl rfl ?_
          refine g_imulN (pc' := 102) dX12_lend_101 rfl ?_
          refine g_aload_n (pc' := 103) dX12_lend_102 rfl rfl ?_
          refine g_getS (pc' := 106) (k := 15) (b := (115, 0)) dX12_lend_103 rfl rfl ck_13 (by decide) fl_X12_35 rfl hs rfl ?_
          refine g_iload_n (pc' := 107) dX12_lend_106 rfl rfl ?_
          refine g_ialdN (pc' := 108) (v := nI (kd (mo h) t)) dX12_lend_107 rfl rfl (by decide) (by omega) ((show h2.1 (115, 0) t = mo h 115 t by rw [← (hq1.wk w2).2.1]; rfl).trans (hw.kd ht).1) ?_
          refine g_iaddN (pc' := 109) dX12_lend_108 rfl ?_
          refine g_iconst (v := -1) (pc' := 110) dX12_lend_109 rfl (by decide) ?_
          refine g_iastN (pc' := 111) dX12_lend_110 rfl rfl (by decide) (by omega) ?_
          refine g_aload_n (pc' := 112) dX12_lend_111 rfl rfl ?_
          refine g_dup (pc' := 113) dX12_lend_112 rfl rfl ?_
          refine g_getIv (v := mo h 1 71) (pc' := 116) (k := 71) dX12_lend_113 rfl rfl ck_13 (by decide) fl_X12_472 rfl ((show h2.1 MO 71 = mo h 1 71 by rw [← (hq1.wk w2).2.1]; rfl)) ?_
          refine g_iconstN (n := 1) (pc' := 117) dX12_lend_116 rfl ?_
          refine g_iadd (pc' := 118) dX12_lend_117 rfl ?_
          refine g_putI (pc' := 121) (k := 71) dX12_lend_118 rfl rfl ck_13 (by decide) fl_X12_472 rfl rfl rfl rfl ?_
          refine g_aload_n (pc' := 122) dX12_lend_121 rfl rfl ?_
          refine g_iload_n (pc' := 123) dX12_lend_122 rfl rfl ?_
          refine g_iconstN (n := 1) (pc' := 124) dX12_lend_123 rfl ?_
          refine g_iload_n (pc' := 125) dX12_lend_124 rfl rfl ?_
          refine g_iaddN (pc' := 126) dX12_lend_125 rfl ?_
          refine g_invV (pc' := 129) (cm_writes hok (by exact hs) (n := nA (mo h)) (by omega) (by exact (show h2.1 MO 70 = mo h 1 70 by rw [← (hq1.wk w2).2.1]; rfl).trans hA) _ _) dX12_lend_126 rfl rfl ck_13 rfl ml_X12_479 im_X12_writes sl_X12_writes in_X12 co_X12_writes pd_X12_writes rfl (by omega) (by decide) ⟨by decide, by decide⟩ (Nat.le_of_ble_eq_true rfl) ?_
          rintro _ _ ⟨rfl, rfl⟩ -
          refine g_aload_n (pc' := 130) dX12_lend_129 rfl rfl ?_
          refine g_getS (pc' := 133) (k := 20) (b := (120, 0)) dX12_lend_130 rfl rfl ck_13 (by decide) fl_X12_50 rfl hs rfl ?_
          refine g_iload_n (pc' := 134) dX12_lend_133 rfl rfl ?_
          refine g_ialdN (pc' := 135) (v := dueF (mo h) R t f) dX12_lend_134 rfl rfl (by decide) (by omega) (by simp [wrtH, wI_at]; rfl) ?_
          refine g_iret dX12_lend_135 rfl (by decide) (by decide) ?_
          have e : sLend (mo h) R (nI t) (nI f) = (dueF (mo h) R t f, lendS (mo h) t f (dueF (mo h) R t f)) := by unfold sLend; simp only [nI_clamp (show t < 2 ^ 31 by omega), nI_clamp (show f < 2 ^ 31 by omega)]; exact cif_t ⟨c5, c13, c23, c32⟩
          rw [e]
          refine ⟨rfl, ?_, ?_⟩
          · rw [mo_wrt, mo_wF (j := 71) rfl, mo_wI (s := 186) rfl, mo_wI (s := 122) rfl, mo_wI (s := 121) rfl, mo_wI (s := 119) rfl, mo_wI (s := 118) rfl, mo_wI (s := 120) rfl, w2.mo, hq1.2.1]
            rfl
          · exact ((((((((k1.tr w2.mk).w (Or.inr (by decide))).w (Or.inr (by decide))).w (Or.inr (by decide))).w (Or.inr (by decide))).w (Or.inr (by decide))).w (Or.inr (by decide))).w (Or.inl rfl)).wrt _ _ _
        ·
          refine g_iconst (v := -1) (pc' := 36) dX12_lend_35 rfl (by decide) ?_
          refine g_iret dX12_lend_36 rfl (by decide) (by decide) ?_
          have e : sLend (mo h) R (nI t) (nI f) = (-1, mo h) := by unfold sLend; simp only [nI_clamp (show t < 2 ^ 31 by omega), nI_clamp (show f < 2 ^ 31 by omega)]; exact cif_f (fun z => c32 z.2.2.2)
          rw [e]
          exact ⟨rfl, e1, k1⟩
