noncomputable def sKind (m : St) (a : Int32) (p : Int32) (z : Int32) (k : Int32) (b : Int32) : Int32 × St := cif ((¬ nK m = 8) ∧ (0 ≤ a ∧ a ≤ 15) ∧ (1 ≤ p ∧ p ≤ 20000) ∧ (0 ≤ z ∧ z ≤ 9) ∧ (0 ≤ k ∧ k ≤ 5) ∧ (1 ≤ b ∧ b ≤ 1000)) (nI (nK m), stU (stU (stU (stU (stU (stU (m) 108 (nK m) (a)) 109 (nK m) (p)) 110 (nK m) (z)) 111 (nK m) (k)) 112 (nK m) (b)) 1 (3) (nI (nK m + 1))) (-1, m)
set_option maxRecDepth 4000 in
theorem cm_kind {E : En} (hok : EOK E) {h : Hp} (hs : Shp h.2) (hw : Wf (mo h)) (a : Int32) (p : Int32) (z : Int32) (k : Int32) (b : Int32) : Call E m_X12_kind 1 0 0 [vR MO, vI a, vI p, vI z, vI k, vI b] h (fun r h' => r = some (vI (sKind (mo h) a p z k b).1) ∧ mo h' = (sKind (mo h) a p z k b).2 ∧ Mk h h') := by
  have hNw : h.1 MO 2 = nI (nW (mo h)) := hw.w.1
  have hNwb := hw.w.2
  have hC : h.1 MO 30 = nI (nC (mo h)) := hw.c.1
  have hCb := hw.c.2
  have hK : h.1 MO 3 = nI (nK (mo h)) := hw.k.1
  have hKb := hw.k.2
  have hT : h.1 MO 4 = nI (nT (mo h)) := hw.t.1
  have hTb := hw.t.2
  have hF : h.1 MO 5 = nI (nF (mo h)) := hw.f.1
  have hFb := hw.f.2
  have hRc : h.1 MO 59 = nI (nR (mo h)) := hw.r.1
  have hRb := hw.r.2
  have hG : h.1 MO 60 = nI (nGf (mo h)) := hw.g.1
  have hGb := hw.g.2
  have hA : h.1 MO 70 = nI (nA (mo h)) := hw.a.1
  have hAb := hw.a.2
  have hTl : h.1 MO 1 = nI (nTl (mo h)) := hw.tl.1
  have hTlb := hw.tl.2
  refine Call.enter hok (by decide) (Nat.le_of_ble_eq_true rfl) ?_
  show G E m_X12_kind 1 0 0 _ h 0 [some (vR MO), some (vI a), some (vI p), some (vI z), some (vI k), some (vI b)] [] h 0 0
  refine g_aload_n (pc' := 1) dX12_kind_0 rfl rfl ?_
  refine g_getIv (v := nI (nK (mo h))) (pc' := 4) (k := 3) dX12_kind_1 rfl rfl ck_13 (by decide) fl_X12_207 rfl (hK) ?_
  refine g_bipushN (n := 8) (pc' := 6) dX12_kind_4 rfl (by decide) ?_
  refine g_icmp_eqN (tgt := 71) (pc' := 9) dX12_kind_6 rfl (by decide) (by omega) (by omega) (fun c6 => ?_) (fun c6 => ?_)
  ·
    refine g_iconst (v := -1) (pc' := 72) dX12_kind_71 rfl (by decide) ?_
    refine g_iret dX12_kind_72 rfl (by decide) (by decide) ?_
    have e : sKind (mo h) a p z k b = (-1, mo h) := by exact cif_f (by rintro ⟨z0, z1, z2, z3, z4, z5⟩; contradiction)
    rw [e]
    exact ⟨rfl, rfl, Mk.rf h⟩
  ·
    refine g_iload_n (pc' := 10) dX12_kind_9 rfl rfl ?_
    refine g_i2l (pc' := 11) dX12_kind_10 rfl ?_
    refine g_lconst (v := 0) (pc' := 12) dX12_kind_11 rfl rfl ?_
    refine g_ldc2 (pc' := 15) dX12_kind_12 rfl kc_X12_222 ?_
    refine g_invS (pc' := 18) (c_liesI hok _ (0) (15) rfl (by decide) (by decide)) dX12_kind_15 rfl ml_X12_203 st_X12_lies in_X12 co_X12_lies pd_X12_lies rfl (by omega) (by decide) ⟨by decide, by decide⟩ (Nat.le_of_ble_eq_true rfl) ?_
    rintro _ _ ⟨rfl, rfl⟩ -
    refine g_ifB_eq (tgt := 71) (pc' := 21) dX12_kind_18 rfl (by decide) (fun c18 => ?_) (fun c18 => ?_)
    ·
      refine g_iconst (v := -1) (pc' := 72) dX12_kind_71 rfl (by decide) ?_
      refine g_iret dX12_kind_72 rfl (by decide) (by decide) ?_
      have e : sKind (mo h) a p z k b = (-1, mo h) := by exact cif_f (by rintro ⟨z0, z1, z2, z3, z4, z5⟩; contradiction)
      rw [e]
      exact ⟨rfl, rfl, Mk.rf h⟩
    ·
      refine g_iload_n (pc' := 22) dX12_kind_21 rfl rfl ?_
      refine g_i2l (pc' := 23) dX12_kind_22 rfl ?_
      refine g_lconst (v := 1) (pc' := 24) dX12_kind_23 rfl rfl ?_
      refine g_ldc2 (pc' := 27) dX12_kind_24 rfl kc_X12_224 ?_
      refine g_invS (pc' := 30) (c_liesI hok _ (1) (20000) rfl (by decide) (by decide)) dX12_kind_27 rfl ml_X12_203 st_X12_lies in_X12 co_X12_lies pd_X12_lies rfl (by omega) (by decide) ⟨by decide, by decide⟩ (Nat.le_of_ble_eq_true rfl) ?_
      rintro _ _ ⟨rfl, rfl⟩ -
      refine g_ifB_eq (tgt := 71) (pc' := 33) dX12_kind_30 rfl (by decide) (fun c30 => ?_) (fun c30 => ?_)
      ·
        refine g_iconst (v := -1) (pc' := 72) dX12_kind_71 rfl (by decide) ?_
        refine g_iret dX12_kind_72 rfl (by decide) (by decide) ?_
        have e : sKind (mo h) a p z k b = (-1, mo h) := by exact cif_f (by rintro ⟨z0, z1, z2, z3, z4, z5⟩; contradiction)
        rw [e]
        exact ⟨rfl, rfl, Mk.rf h⟩
      ·
        refine g_iload_n (pc' := 34) dX12_kind_33 rfl rfl ?_
        refine g_i2l (pc' := 35) dX12_kind_34 rfl ?_
        refine g_lconst (v := 0) (pc' := 36) dX12_kind_35 rfl rfl ?_
        refine g_ldc2 (pc' := 39) dX12_kind_36 rfl kc_X12_226 ?_
        refine g_invS (pc' := 42) (c_liesI hok _ (0) (9) rfl (by decide) (by decide)) dX12_kind_39 rfl ml_X12_203 st_X12_lies in_X12 co_X12_lies pd_X12_lies rfl (by omega) (by decide) ⟨by decide, by decide⟩ (Nat.le_of_ble_eq_true rfl) ?_
        rintro _ _ ⟨rfl, rfl⟩ -
        refine g_ifB_eq (tgt := 71) (pc' := 45) dX12_kind_42 rfl (by decide) (fun c42 => ?_) (fun c42 => ?_)
        ·
          refine g_iconst (v := -1) (pc' := 72) dX12_kind_71 rfl (by decide) ?_
          refine g_iret dX12_kind_72 rfl (by decide) (by decide) ?_
          have e : sKind (mo h) a p z k b = (-1, mo h) := by exact cif_f (by rintro ⟨z0, z1, z2, z3, z4, z5⟩; contradiction)
          rw [e]
          exact ⟨rfl, rfl, Mk.rf h⟩
        ·
          refine g_iload (pc' := 47) dX12_kind_45 rfl rfl ?_
          refine g_i2l (pc' := 48) dX12_kind_47 rfl ?_
          refine g_lconst (v := 0) (pc' := 49) dX12_kind_48 rfl rfl ?_
          refine g_ldc2 (pc' := 52) dX12_kind_49 rfl kc_X12_217 ?_
          refine g_invS (pc' := 55) (c_liesI hok _ (0) (5) rfl (by decide) (by decide)) dX12_kind_52 rfl ml_X12_203 st_X12_lies in_X12 co_X12_lies pd_X12_lies rfl (by omega) (by decide) ⟨by decide, by decide⟩ (Nat.le_of_ble_eq_true rfl) ?_
          rintro _ _ ⟨rfl, rfl⟩ -
          refine g_ifB_eq (tgt := 71) (pc' := 58) dX12_kind_55 rfl (by decide) (fun c55 => ?_) (fun c55 => ?_)
          ·
            refine g_iconst (v := -1) (pc' := 72) dX12_kind_71 rfl (by decide) ?_
            refine g_iret dX12_kind_72 rfl (by decide) (by decide) ?_
            have e : sKind (mo h) a p z k b = (-1, mo h) := by exact cif_f (by rintro ⟨z0, z1, z2, z3, z4, z5⟩; contradiction)
            rw [e]
            exact ⟨rfl, rfl, Mk.rf h⟩
          ·
            refine g_iload (pc' := 60) dX12_kind_58 rfl rfl ?_
            refine g_i2l (pc' := 61) dX12_kind_60 rfl ?_
            refine g_lconst (v := 1) (pc' := 62) dX12_kind_61 rfl rfl ?_
            refine g_ldc2 (pc' := 65) dX12_kind_62 rfl kc_X12_228 ?_
            refine g_invS (pc' := 68) (c_liesI hok _ (1) (1000) rfl (by decide) (by decide)) dX12_kind_65 rfl ml_X12_203 st_X12_lies in_X12 co_X12_lies pd_X12_lies rfl (by omega) (by decide) ⟨by decide, by decide⟩ (Nat.le_of_ble_eq_true rfl) ?_
            rintro _ _ ⟨rfl, rfl⟩ -
            refine g_ifB_ne (tgt := 73) (pc' := 71) dX12_kind_68 rfl (by decide) (fun c68 => ?_) (fun c68 => ?_)
            ·
              refine g_aload_n (pc' := 74) dX12_kind_73 rfl rfl ?_
              refine g_getS (pc' := 77) (k := 8) (b := (108, 0)) dX12_kind_74 rfl rfl ck_13 (by decide) fl_X12_13 rfl hs rfl ?_
              refine g_aload_n (pc' := 78) dX12_kind_77 rfl rfl ?_
              refine g_getIv (v := nI (nK (mo h))) (pc' := 81) (k := 3) dX12_kind_78 rfl rfl ck_13 (by decide) fl_X12_207 rfl (hK) ?_
              refine g_iload_n (pc' := 82) dX12_kind_81 rfl rfl ?_
              refine g_iastN (pc' := 83) dX12_kind_82 rfl rfl (by decide) (by omega) ?_
              refine g_aload_n (pc' := 84) dX12_kind_83 rfl rfl ?_
              refine g_getS (pc' := 87) (k := 9) (b := (109, 0)) dX12_kind_84 rfl rfl ck_13 (by decide) fl_X12_17 rfl hs rfl ?_
              refine g_aload_n (pc' := 88) dX12_kind_87 rfl rfl ?_
              refine g_getIv (v := nI (nK (mo h))) (pc' := 91) (k := 3) dX12_kind_88 rfl rfl ck_13 (by decide) fl_X12_207 rfl (hK) ?_
              refine g_iload_n (pc' := 92) dX12_kind_91 rfl rfl ?_
              refine g_iastN (pc' := 93) dX12_kind_92 rfl rfl (by decide) (by omega) ?_
              refine g_aload_n (pc' := 94) dX12_kind_93 rfl rfl ?_
              refine g_getS (pc' := 97) (k := 10) (b := (110, 0)) dX12_kind_94 rfl rfl ck_13 (by decide) fl_X12_20 rfl hs rfl ?_
              refine g_aload_n (pc' := 98) dX12_kind_97 rfl rfl ?_
              refine g_getIv (v := nI (nK (mo h))) (pc' := 101) (k := 3) dX12_kind_98 rfl rfl ck_13 (by decide) fl_X12_207 rfl (hK) ?_
              refine g_iload_n (pc' := 102) dX12_kind_101 rfl rfl ?_
              refine g_iastN (pc' := 103) dX12_kind_102 rfl rfl (by decide) (by omega) ?_
              refine g_aload_n (pc' := 104) dX12_kind_103 rfl rfl ?_
              refine g_getS (pc' := 107) (k := 11) (b := (111, 0)) dX12_kind_104 rfl rfl ck_13 (by decide) fl_X12_23 rfl hs rfl ?_
              refine g_aload_n (pc' := 108) dX12_kind_107 rfl rfl ?_
              refine g_getIv (v := nI (nK (mo h))) (pc' := 111) (k := 3) dX12_kind_108 rfl rfl ck_13 (by decide) fl_X12_207 rfl (hK) ?_
              refine g_iload (pc' := 113) dX12_kind_111 rfl rfl ?_
              refine g_iastN (pc' := 114) dX12_kind_113 rfl rfl (by decide) (by omega) ?_
              refine g_aload_n (pc' := 115) dX12_kind_114 rfl rfl ?_
              refine g_getS (pc' := 118) (k := 12) (b := (112, 0)) dX12_kind_115 rfl rfl ck_13 (by decide) fl_X12_26 rfl hs rfl ?_
              refine g_aload_n (pc' := 119) dX12_kind_118 rfl rfl ?_
              refine g_getIv (v := nI (nK (mo h))) (pc' := 122) (k := 3) dX12_kind_119 rfl rfl ck_13 (by decide) fl_X12_207 rfl (hK) ?_
              refine g_iload (pc' := 124) dX12_kind_122 rfl rfl ?_
              refine g_iastN (pc' := 125) dX12_kind_124 rfl rfl (by decide) (by omega) ?_
              refine g_aload_n (pc' := 126) dX12_kind_125 rfl rfl ?_
              refine g_dup (pc' := 127) dX12_kind_126 rfl rfl ?_
              refine g_getIv (v := nI (nK (mo h))) (pc' := 130) (k := 3) dX12_kind_127 rfl rfl ck_13 (by decide) fl_X12_207 rfl (hK) ?_
              refine g_iconstN (n := 1) (pc' := 131) dX12_kind_130 rfl ?_
              refine g_iaddN (pc' := 132) dX12_kind_131 rfl ?_
              refine g_putI (pc' := 135) (k := 3) dX12_kind_132 rfl rfl ck_13 (by decide) fl_X12_207 rfl rfl rfl rfl ?_
              refine g_aload_n (pc' := 136) dX12_kind_135 rfl rfl ?_
              refine g_getIv (v := nI ((nK (mo h) + 1))) (pc' := 139) (k := 3) dX12_kind_136 rfl rfl ck_13 (by decide) fl_X12_207 rfl (wI_same _ _ _ _) ?_
              refine g_iconstN (n := 1) (pc' := 140) dX12_kind_139 rfl ?_
              refine g_isubN (pc' := 141) dX12_kind_140 rfl (by omega) ?_
              refine g_iret dX12_kind_141 rfl (by decide) (by decide) ?_
              have e : sKind (mo h) a p z k b = (nI (nK (mo h)), stU (stU (stU (stU (stU (stU ((mo h)) 108 (nK (mo h)) (a)) 109 (nK (mo h)) (p)) 110 (nK (mo h)) (z)) 111 (nK (mo h)) (k)) 112 (nK (mo h)) (b)) 1 (3) (nI (nK (mo h) + 1))) := by exact cif_t ⟨by assumption, by assumption, by assumption, by assumption, by assumption, by assumption⟩
              rw [e]
              exact ⟨rfl, by rw [mo_wF (j := 3) rfl, mo_wI (s := 112) rfl, mo_wI (s := 111) rfl, mo_wI (s := 110) rfl, mo_wI (s := 109) rfl, mo_wI (s := 108) rfl] <;> rfl, ((((((Mk.rf h).w (Or.inr (by decide))).w (Or.inr (by decide))).w (Or.inr (by decide))).w (Or.inr (by decide))).w (Or.inr (by decide))).w (Or.inl rfl)⟩
            ·
              refine g_iconst (v := -1) (pc' := 72) dX12_kind_71 rfl (by decide) ?_
              refine g_iret dX12_kind_72 rfl (by decide) (by decide) ?_
              have e : sKind (mo h) a p z k b = (-1, mo h) := by exact cif_f (by rintro ⟨z0, z1, z2, z3, z4, z5⟩; contradiction)
              rw [e]
              exact ⟨rfl, rfl, Mk.rf h⟩
noncomputable def sFamily (m : St) (a : Int32) (p : Int32) (z : Int32) : Int32 × St := cif ((¬ nF m = 10) ∧ (0 ≤ a ∧ a ≤ 15) ∧ (0 ≤ p ∧ p ≤ 9) ∧ (0 ≤ z ∧ z ≤ 4)) (nI (nF m), stU (stU (stU (stU (m) 126 (nF m) (a)) 127 (nF m) (p)) 128 (nF m) (z)) 1 (5) (nI (nF m + 1))) (-1, m)
set_option maxRecDepth 4000 in
theorem cm_family {E : En} (hok : EOK E) {h : Hp} (hs : Shp h.2) (hw : Wf (mo h)) (a : Int32) (p : Int32) (z : Int32) : Call E m_X12_family 1 0 0 [vR MO, vI a, vI p, vI z] h (fun r h' => r = some (vI (sFamily (mo h) a p z).1) ∧ mo h' = (sFamily (mo h) a p z).2 ∧ Mk h h') := by
  have hNw : h.1 MO 2 = nI (nW (mo h)) := hw.w.1
  have hNwb := hw.w.2
  have hC : h.1 MO 30 = nI (nC (mo h)) := hw.c.1
  have hCb := hw.c.2
  have hK : h.1 MO 3 = nI (nK (mo h)) := hw.k.1
  have hKb := hw.k.2
  have hT : h.1 MO 4 = nI (nT (mo h)) := hw.t.1
  have hTb := hw.t.2
  have hF : h.1 MO 5 = nI (nF (mo h)) := hw.f.1
  have hFb := hw.f.2
  have hRc : h.1 MO 59 = nI (nR (mo h)) := hw.r.1
  have hRb := hw.r.2
  have hG : h.1 MO 60 = nI (nGf (mo h)) := hw.g.1
  have hGb := hw.g.2
  have hA : h.1 MO 70 = nI (nA (mo h)) := hw.a.1
  have hAb := hw.a.2
  have hTl : h.1 MO 1 = nI (nTl (mo h)) := hw.tl.1
  have hTlb := hw.tl.2
  refine Call.enter hok (by decide) (Nat.le_of_ble_eq_true rfl) ?_
  show G E m_X12_family 1 0 0 _ h 0 [some (vR MO), some (vI a), some (vI p), some (vI z)] [] h 0 0
  refine g_aload_n (pc' := 1) dX12_family_0 rfl rfl ?_
  refine g_getIv (v := nI (nF (mo h))) (pc' := 4) (k := 5) dX12_family_1 rfl rfl ck_13 (by decide) fl_X12_214 rfl (hF) ?_
  refine g_bipushN (n := 10) (pc' := 6) dX12_family_4 rfl (by decide) ?_
  refine g_icmp_eqN (tgt := 45) (pc' := 9) dX12_family_6 rfl (by decide) (by omega) (by omega) (fun c6 => ?_) (fun c6 => ?_)
  ·
    refine g_iconst (v := -1) (pc' := 46) dX12_family_45 rfl (by decide) ?_
    refine g_iret dX12_family_46 rfl (by decide) (by decide) ?_
    have e : sFamily (mo h) a p z = (-1, mo h) := by exact cif_f (by rintro ⟨z0, z1, z2, z3⟩; contradiction)
    rw [e]
    exact ⟨rfl, rfl, Mk.rf h⟩
  ·
    refine g_iload_n (pc' := 10) dX12_family_9 rfl rfl ?_
    refine g_i2l (pc' := 11) dX12_family_10 rfl ?_
    refine g_lconst (v := 0) (pc' := 12) dX12_family_11 rfl rfl ?_
    refine g_ldc2 (pc' := 15) dX12_family_12 rfl kc_X12_222 ?_
    refine g_invS (pc' := 18) (c_liesI hok _ (0) (15) rfl (by decide) (by decide)) dX12_family_15 rfl ml_X12_203 st_X12_lies in_X12 co_X12_lies pd_X12_lies rfl (by omega) (by decide) ⟨by decide, by decide⟩ (Nat.le_of_ble_eq_true rfl) ?_
    rintro _ _ ⟨rfl, rfl⟩ -
    refine g_ifB_eq (tgt := 45) (pc' := 21) dX12_family_18 rfl (by decide) (fun c18 => ?_) (fun c18 => ?_)
    ·
      refine g_iconst (v := -1) (pc' := 46) dX12_family_45 rfl (by decide) ?_
      refine g_iret dX12_family_46 rfl (by decide) (by decide) ?_
      have e : sFamily (mo h) a p z = (-1, mo h) := by exact cif_f (by rintro ⟨z0, z1, z2, z3⟩; contradiction)
      rw [e]
      exact ⟨rfl, rfl, Mk.rf h⟩
    ·
      refine g_iload_n (pc' := 22) dX12_family_21 rfl rfl ?_
      refine g_i2l (pc' := 23) dX12_family_22 rfl ?_
      refine g_lconst (v := 0) (pc' := 24) dX12_family_23 rfl rfl ?_
      refine g_ldc2 (pc' := 27) dX12_family_24 rfl kc_X12_226 ?_
      refine g_invS (pc' := 30) (c_liesI hok _ (0) (9) rfl (by decide) (by decide)) dX12_family_27 rfl ml_X12_203 st_X12_lies in_X12 co_X12_lies pd_X12_lies rfl (by omega) (by decide) ⟨by decide, by decide⟩ (Nat.le_of_ble_eq_true rfl) ?_
      rintro _ _ ⟨rfl, rfl⟩ -
      refine g_ifB_eq (tgt := 45) (pc' := 33) dX12_family_30 rfl (by decide) (fun c30 => ?_) (fun c30 => ?_)
      ·
        refine g_iconst (v := -1) (pc' := 46) dX12_family_45 rfl (by decide) ?_
        refine g_iret dX12_family_46 rfl (by decide) (by decide) ?_
        have e : sFamily (mo h) a p z = (-1, mo h) := by exact cif_f (by rintro ⟨z0, z1, z2, z3⟩; contradiction)
        rw [e]
        exact ⟨rfl, rfl, Mk.rf h⟩
      ·
        refine g_iload_n (pc' := 34) dX12_family_33 rfl rfl ?_
        refine g_i2l (pc' := 35) dX12_family_34 rfl ?_
        refine g_lconst (v := 0) (pc' := 36) dX12_family_35 rfl rfl ?_
        refine g_ldc2 (pc' := 39) dX12_family_36 rfl kc_X12_243 ?_
        refine g_invS (pc' := 42) (c_liesI hok _ (0) (4) rfl (by decide) (by decide)) dX12_family_39 rfl ml_X12_203 st_X12_lies in_X12 co_X12_lies pd_X12_lies rfl (by omega) (by decide) ⟨by decide, by decide⟩ (Nat.le_of_ble_eq_true rfl) ?_
        rintro _ _ ⟨rfl, rfl⟩ -
        refine g_ifB_ne (tgt := 47) (pc' := 45) dX12_family_42 rfl (by decide) (fun c42 => ?_) (fun c42 => ?_)
        ·
          refine g_aload_n (pc' := 48) dX12_family_47 rfl rfl ?_
          refine g_getS (pc' := 51) (k := 26) (b := (126, 0)) dX12_family_48 rfl rfl ck_13 (by decide) fl_X12_69 rfl hs rfl ?_
          refine g_aload_n (pc' := 52) dX12_family_51 rfl rfl ?_
          refine g_getIv (v := nI (nF (mo h))) (pc' := 55) (k := 5) dX12_family_52 rfl rfl ck_13 (by decide) fl_X12_214 rfl (hF) ?_
          refine g_iload_n (pc' := 56) dX12_family_55 rfl rfl ?_
          refine g_iastN (pc' := 57) dX12_family_56 rfl rfl (by decide) (by omega) ?_
          refine g_aload_n (pc' := 58) dX12_family_57 rfl rfl ?_
          refine g_getS (pc' := 61) (k := 27) (b := (127, 0)) dX12_family_58 rfl rfl ck_13 (by decide) fl_X12_72 rfl hs rfl ?_
          refine g_aload_n (pc' := 62) dX12_family_61 rfl rfl ?_
          refine g_getIv (v := nI (nF (mo h))) (pc' := 65) (k := 5) dX12_family_62 rfl rfl ck_13 (by decide) fl_X12_214 rfl (hF) ?_
          refine g_iload_n (pc' := 66) dX12_family_65 rfl rfl ?_
          refine g_iastN (pc' := 67) dX12_family_66 rfl rfl (by decide) (by omega) ?_
          refine g_aload_n (pc' := 68) dX12_family_67 rfl rfl ?_
          refine g_getS (pc' := 71) (k := 28) (b := (128, 0)) dX12_family_68 rfl rfl ck_13 (by decide) fl_X12_75 rfl hs rfl ?_
          refine g_aload_n (pc' := 72) dX12_family_71 rfl rfl ?_
          refine g_getIv (v := nI (nF (mo h))) (pc' := 75) (k := 5) dX12_family_72 rfl rfl ck_13 (by decide) fl_X12_214 rfl (hF) ?_
          refine g_iload_n (pc' := 76) dX12_family_75 rfl rfl ?_
          refine g_iastN (pc' := 77) dX12_family_76 rfl rfl (by decide) (by omega) ?_
          refine g_aload_n (pc' := 78) dX12_family_77 rfl rfl ?_
          refine g_dup (pc' := 79) dX12_family_78 rfl rfl ?_
          refine g_getIv (v := nI (nF (mo h))) (pc' := 82) (k := 5) dX12_family_79 rfl rfl ck_13 (by decide) fl_X12_214 rfl (hF) ?_
          refine g_iconstN (n := 1) (pc' := 83) dX12_family_82 rfl ?_
          refine g_iaddN (pc' := 84) dX12_family_83 rfl ?_
          refine g_putI (pc' := 87) (k := 5) dX12_family_84 rfl rfl ck_13 (by decide) fl_X12_214 rfl rfl rfl rfl ?_
          refine g_aload_n (pc' := 88) dX12_family_87 rfl rfl ?_
          refine g_getIv (v := nI ((nF (mo h) + 1))) (pc' := 91) (k := 5) dX12_family_88 rfl rfl ck_13 (by decide) fl_X12_214 rfl (wI_same _ _ _ _) ?_
          refine g_iconstN (n := 1) (pc' := 92) dX12_family_91 rfl ?_
          refine g_isubN (pc' := 93) dX12_family_92 rfl (by omega) ?_
          refine g_iret dX12_family_93 rfl (by decide) (by decide) ?_
          have e : sFamily (mo h) a p z = (nI (nF (mo h)), stU (stU (stU (stU ((mo h)) 126 (nF (mo h)) (a)) 127 (nF (mo h)) (p)) 128 (nF (mo h)) (z)) 1 (5) (nI (nF (mo h) + 1))) := by exact cif_t ⟨by assumption, by assumption, by assumption, by assumption⟩
          rw [e]
          exact ⟨rfl, by rw [mo_wF (j := 5) rfl, mo_wI (s := 128) rfl, mo_wI (s := 127) rfl, mo_wI (s := 126) rfl] <;> rfl, ((((Mk.rf h).w (Or.inr (by decide))).w (Or.inr (by decide))).w (Or.inr (by decide))).w (Or.inl rfl)⟩
        ·
          refine g_iconst (v := -1) (pc' := 46) dX12_family_45 rfl (by decide) ?_
          refine g_iret dX12_family_46 rfl (by decide) (by decide) ?_
          have e : sFamily (mo h) a p z = (-1, mo h) := by exact cif_f (by rintro ⟨z0, z1, z2, z3⟩; contradiction)
          rw [e]
          exact ⟨rfl, rfl, Mk.rf h⟩
noncomputable def sWaits (m : St) (x : Int32) (k : Int32) : Int32 × St := cif ((∃ j : Nat, j < nF m ∧ x = nI j) ∧ (∃ j : Nat, j < nK m ∧ k = nI j) ∧ (m 186 (8 * x.toNatClampNeg + k.toNatClampNeg) = -1)) (1, stU (stU (m) 186 (8 * x.toNatClampNeg + k.toNatClampNeg) (m 1 2)) 187 (nW m % 365 / 7) (m 187 (nW m % 365 / 7) + nI 1)) (0, m)
set_option maxRecDepth 4000 in
theorem cm_waits {E : En} (hok : EOK E) {h : Hp} (hs : Shp h.2) (hw : Wf (mo h)) (x : Int32) (k : Int32) : Call E m_X12_waits 2 0 0 [vR MO, vI x, vI k] h (fun r h' => r = some (vI (sWaits (mo h) x k).1) ∧ mo h' = (sWaits (mo h) x k).2 ∧ Mk h h') := by
  have hNw : h.1 MO 2 = nI (nW (mo h)) := hw.w.1
  have hNwb := hw.w.2
  have hC : h.1 MO 30 = nI (nC (mo h)) := hw.c.1
  have hCb := hw.c.2
  have hK : h.1 MO 3 = nI (nK (mo h)) := hw.k.1
  have hKb := hw.k.2
  have hT : h.1 MO 4 = nI (nT (mo h)) := hw.t.1
  have hTb := hw.t.2
  have hF : h.1 MO 5 = nI (nF (mo h)) := hw.f.1
  have hFb := hw.f.2
  have hRc : h.1 MO 59 = nI (nR (mo h)) := hw.r.1
  have hRb := hw.r.2
  have hG : h.1 MO 60 = nI (nGf (mo h)) := hw.g.1
  have hGb := hw.g.2
  have hA : h.1 MO 70 = nI (nA (mo h)) := hw.a.1
  have hAb := hw.a.2
  have hTl : h.1 MO 1 = nI (nTl (mo h)) := hw.tl.1
  have hTlb := hw.tl.2
  refine Call.enter hok (by decide) (Nat.le_of_ble_eq_true rfl) ?_
  show G E m_X12_waits 2 0 0 _ h 0 [some (vR MO), some (vI x), some (vI k)] [] h 0 0
  refine g_aload_n (pc' := 1) dX12_waits_0 rfl rfl ?_
  refine g_iload_n (pc' := 2) dX12_waits_1 rfl rfl ?_
  refine g_invV (pc' := 5) (cm_isFamily hok hw _) dX12_waits_2 rfl rfl ck_13 rfl ml_X12_435 im_X12_isFamily sl_X12_isFamily in_X12 co_X12_isFamily pd_X12_isFamily rfl (by omega) (by decide) ⟨by decide, by decide⟩ (Nat.le_of_ble_eq_true rfl) ?_
  rintro _ _ ⟨rfl, rfl⟩ -
  refine g_ifB_eq (tgt := 31) (pc' := 8) dX12_waits_5 rfl (by decide) (fun c5 => ?_) (fun c5 => ?_)
  ·
    refine g_iconstN (n := 0) (pc' := 32) dX12_waits_31 rfl ?_
    refine g_zret dX12_waits_32 rfl (by rfl) (by decide) (by decide) ?_
    have e : sWaits (mo h) x k = (0, mo h) := by exact cif_f (by rintro ⟨z0, z1, z2⟩; contradiction)
    rw [e]
    exact ⟨rfl, rfl, Mk.rf h⟩
  ·
    have k5 := c5
    obtain ⟨f, hf, rfl⟩ := k5
    refine g_aload_n (pc' := 9) dX12_waits_8 rfl rfl ?_
    refine g_iload_n (pc' := 10) dX12_waits_9 rfl rfl ?_
    refine g_invV (pc' := 13) (cm_isKind hok hw _) dX12_waits_10 rfl rfl ck_13 rfl ml_X12_230 im_X12_isKind sl_X12_isKind in_X12 co_X12_isKind pd_X12_isKind rfl (by omega) (by decide) ⟨by decide, by decide⟩ (Nat.le_of_ble_eq_true rfl) ?_
    rintro _ _ ⟨rfl, rfl⟩ -
    refine g_ifB_eq (tgt := 31) (pc' := 16) dX12_waits_13 rfl (by decide) (fun c13 => ?_) (fun c13 => ?_)
    ·
      refine g_iconstN (n := 0) (pc' := 32) dX12_waits_31 rfl ?_
      refine g_zret dX12_waits_32 rfl (by rfl) (by decide) (by decide) ?_
      have e : sWaits (mo h) (nI f) k = (0, mo h) := by unfold sWaits; simp only [nI_clamp (show f < 2 ^ 31 by omega)]; exact cif_f (by rintro ⟨z0, z1, z2⟩; contradiction)
      rw [e]
      exact ⟨rfl, rfl, Mk.rf h⟩
    ·
      have k13 := c13
      obtain ⟨j, hj, rfl⟩ := k13
      refine g_aload_n (pc' := 17) dX12_waits_16 rfl rfl ?_
      refine g_getS (pc' := 20) (k := 86) (b := (186, 0)) dX12_waits_17 rfl rfl ck_13 (by decide) fl_X12_183 rfl hs rfl ?_
      refine g_bipushN (n := 8) (pc' := 22) dX12_waits_20 rfl (by decide) ?_
      refine g_iload_n (pc' := 23) dX12_waits_22 rfl rfl ?_
      refine g_imulN (pc' := 24) dX12_waits_23 rfl ?_
      refine g_iload_n (pc' := 25) dX12_waits_24 rfl rfl ?_
      refine g_iaddN (pc' := 26) dX12_waits_25 rfl ?_
      refine g_ialdN (pc' := 27) (v := _) dX12_waits_26 rfl rfl (by decide) (by omega) (rfl) ?_
      refine g_iconst (v := -1) (pc' := 28) dX12_waits_27 rfl (by decide) ?_
      refine g_icmp_eq (tgt := 33) (pc' := 31) dX12_waits_28 rfl (by decide) (fun c28 => ?_) (fun c28 => ?_)
      ·
        refine g_aload_n (pc' := 34) dX12_waits_33 rfl rfl ?_
        refine g_getS (pc' := 37) (k := 86) (b := (186, 0)) dX12_waits_34 rfl rfl ck_13 (by decide) fl_X12_183 rfl hs rfl ?_
        refine g_bipushN (n := 8) (pc' := 39) dX12_waits_37 rfl (by decide) ?_
        refine g_iload_n (pc' := 40) dX12_waits_39 rfl rfl ?_
        refine g_imulN (pc' := 41) dX12_waits_40 rfl ?_
        refine g_iload_n (pc' := 42) dX12_waits_41 rfl rfl ?_
        refine g_iaddN (pc' := 43) dX12_waits_42 rfl ?_
        refine g_aload_n (pc' := 44) dX12_waits_43 rfl rfl ?_
        refine g_getI (pc' := 47) (k := 2) dX12_waits_44 rfl rfl ck_13 (by decide) fl_X12_219 rfl ?_
        refine g_iastN (pc' := 48) dX12_waits_47 rfl rfl (by decide) (by omega) ?_
        refine g_aload_n (pc' := 49) dX12_waits_48 rfl rfl ?_
        refine g_getS (pc' := 52) (k := 87) (b := (187, 0)) dX12_waits_49 rfl rfl ck_13 (by decide) fl_X12_186 rfl hs rfl ?_
        refine g_aload_n (pc' := 53) dX12_waits_52 rfl rfl ?_
        refine g_getIv (v := nI (nW (mo h))) (pc' := 56) (k := 2) dX12_waits_53 rfl rfl ck_13 (by decide) fl_X12_219 rfl (hNw) ?_
        refine g_sipushN (n := 365) (pc' := 59) dX12_waits_56 rfl (by decide) ?_
        refine g_iremN (pc' := 60) dX12_waits_59 rfl (by omega) (by omega) (by omega) ?_
        refine g_bipushN (n := 7) (pc' := 62) dX12_waits_60 rfl (by decide) ?_
        refine g_idivN (pc' := 63) dX12_waits_62 rfl (by omega) (by omega) (by omega) ?_
        refine g_dup2 (pc' := 64) dX12_waits_63 rfl rfl rfl ?_
        refine g_ialdN (pc' := 65) (v := _) dX12_waits_64 rfl rfl (by decide) (by omega) (rfl) ?_
        refine g_iconstN (n := 1) (pc' := 66) dX12_waits_65 rfl ?_
        refine g_iadd (pc' := 67) dX12_waits_66 rfl ?_
        refine g_iastN (pc' := 68) dX12_waits_67 rfl rfl (by decide) (by omega) ?_
        refine g_iconstN (n := 1) (pc' := 69) dX12_waits_68 rfl ?_
        refine g_zret dX12_waits_69 rfl (by rfl) (by decide) (by decide) ?_
        have e : sWaits (mo h) (nI f) (nI j) = (1, stU (stU ((mo h)) 186 (8 * f + j) ((mo h) 1 2)) 187 (nW (mo h) % 365 / 7) ((mo h) 187 (nW (mo h) % 365 / 7) + nI 1)) := by unfold sWaits; simp only [nI_clamp (show f < 2 ^ 31 by omega), nI_clamp (show j < 2 ^ 31 by omega)]; exact cif_t ⟨by assumption, by assumption, by assumption⟩
        rw [e]
        exact ⟨rfl, by rw [mo_wI (s := 187) rfl, mo_wI (s := 186) rfl] <;> rfl, ((Mk.rf h).w (Or.inr (by decide))).w (Or.inr (by decide))⟩
      ·
        refine g_iconstN (n := 0) (pc' := 32) dX12_waits_31 rfl ?_
        refine g_zret dX12_waits_32 rfl (by rfl) (by decide) (by decide) ?_
        have e : sWaits (mo h) (nI f) (nI j) = (0, mo h) := by unfold sWaits; simp only [nI_clamp (show f < 2 ^ 31 by omega), nI_clamp (show j < 2 ^ 31 by omega)]; exact cif_f (by rintro ⟨z0, z1, z2⟩; contradiction)
        rw [e]
        exact ⟨rfl, rfl, Mk.rf h⟩
set_option maxRecDepth 4000 in
theorem cm_isToWash {E : En} (hok : EOK E) {h : Hp} (hs : Shp h.2) (hw : Wf (mo h)) {t : Nat} (ht : t < nT (mo h)) : Fn E m_X12_isToWash 0 [vR MO, vI (nI t)] h (vI (bi (mo h 118 t = 0 ∧ ¬ mo h 124 t = 0))) := by
  have hNw : h.1 MO 2 = nI (nW (mo h)) := hw.w.1
  have hNwb := hw.w.2
  have hC : h.1 MO 30 = nI (nC (mo h)) := hw.c.1
  have hCb := hw.c.2
  have hK : h.1 MO 3 = nI (nK (mo h)) := hw.k.1
  have hKb := hw.k.2
  have hT : h.1 MO 4 = nI (nT (mo h)) := hw.t.1
  have hTb := hw.t.2
  have hF : h.1 MO 5 = nI (nF (mo h)) := hw.f.1
  have hFb := hw.f.2
  have hRc : h.1 MO 59 = nI (nR (mo h)) := hw.r.1
  have hRb := hw.r.2
  have hG : h.1 MO 60 = nI (nGf (mo h)) := hw.g.1
  have hGb := hw.g.2
  have hA : h.1 MO 70 = nI (nA (mo h)) := hw.a.1
  have hAb := hw.a.2
  have hTl : h.1 MO 1 = nI (nTl (mo h)) := hw.tl.1
  have hTlb := hw.tl.2
  refine Call.enter hok (by decide) (Nat.le_of_ble_eq_true rfl) ?_
  show G E m_X12_isToWash 0 0 0 _ h 0 [some (vR MO), some (vI (nI t))] [] h 0 0
  refine g_aload_n (pc' := 1) dX12_isToWash_0 rfl rfl ?_
  refine g_getS (pc' := 4) (k := 18) (b := (118, 0)) dX12_isToWash_1 rfl rfl ck_13 (by decide) fl_X12_44 rfl hs rfl ?_
  refine g_iload_n (pc' := 5) dX12_isToWash_4 rfl rfl ?_
  refine g_ialdN (pc' := 6) (v := _) dX12_isToWash_5 rfl rfl (by decide) (by omega) (rfl) ?_
  refine g_if_ne (tgt := 22) (pc' := 9) dX12_isToWash_6 rfl (by decide) (fun c6 => ?_) (fun c6 => ?_)
  ·
    refine g_iconstN (n := 0) (pc' := 23) dX12_isToWash_22 rfl ?_
    refine g_zret dX12_isToWash_23 rfl (by rfl) (by decide) (by decide) ?_
    exact ⟨congrArg (fun z : Int32 => some (vI z)) (bi_f (P := mo h 118 t = 0 ∧ ¬ mo h 124 t = 0) (fun z => c6 z.1)).symm, rfl⟩
  ·
    refine g_aload_n (pc' := 10) dX12_isToWash_9 rfl rfl ?_
    refine g_getS (pc' := 13) (k := 24) (b := (124, 0)) dX12_isToWash_10 rfl rfl ck_13 (by decide) fl_X12_62 rfl hs rfl ?_
    refine g_iload_n (pc' := 14) dX12_isToWash_13 rfl rfl ?_
    refine g_zaldN (pc' := 15) (v := _) dX12_isToWash_14 rfl rfl (by decide) (by omega) (rfl) ?_
    refine g_if_eq (tgt := 22) (pc' := 18) dX12_isToWash_15 rfl (by decide) (fun c15 => ?_) (fun c15 => ?_)
    ·
      refine g_iconstN (n := 0) (pc' := 23) dX12_isToWash_22 rfl ?_
      refine g_zret dX12_isToWash_23 rfl (by rfl) (by decide) (by decide) ?_
      exact ⟨congrArg (fun z : Int32 => some (vI z)) (bi_f (P := mo h 118 t = 0 ∧ ¬ mo h 124 t = 0) (fun z => z.2 c15)).symm, rfl⟩
    ·
      refine g_iconstN (n := 1) (pc' := 19) dX12_isToWash_18 rfl ?_
      refine g_goto (tgt := 23) dX12_isToWash_19 (by decide) ?_
      refine g_zret dX12_isToWash_23 rfl (by rfl) (by decide) (by decide) ?_
      exact ⟨congrArg (fun z : Int32 => some (vI z)) (bi_t (P := mo h 118 t = 0 ∧ ¬ mo h 124 t = 0) (⟨c6, c15⟩)).symm, rfl⟩
set_option maxRecDepth 4000 in
theorem cm_canMend {E : En} (hok : EOK E) {h : Hp} (hs : Shp h.2) (hw : Wf (mo h)) {t : Nat} (ht : t < nT (mo h)) : Fn E m_X12_canMend 1 [vR MO, vI (nI t)] h (vI (bi (mo h 118 t = 0 ∧ 0 < lck (mo h) t))) := by
  have hNw : h.1 MO 2 = nI (nW (mo h)) := hw.w.1
  have hNwb := hw.w.2
  have hC : h.1 MO 30 = nI (nC (mo h)) := hw.c.1
  have hCb := hw.c.2
  have hK : h.1 MO 3 = nI (nK (mo h)) := hw.k.1
  have hKb := hw.k.2
  have hT : h.1 MO 4 = nI (nT (mo h)) := hw.t.1
  have hTb := hw.t.2
  have hF : h.1 MO 5 = nI (nF (mo h)) := hw.f.1
  have hFb := hw.f.2
  have hRc : h.1 MO 59 = nI (nR (mo h)) := hw.r.1
  have hRb := hw.r.2
  have hG : h.1 MO 60 = nI (nGf (mo h)) := hw.g.1
  have hGb := hw.g.2
  have hA : h.1 MO 70 = nI (nA (mo h)) := hw.a.1
  have hAb := hw.a.2
  have hTl : h.1 MO 1 = nI (nTl (mo h)) := hw.tl.1
  have hTlb := hw.tl.2
  refine Call.enter hok (by decide) (Nat.le_of_ble_eq_true rfl) ?_
  show G E m_X12_canMend 1 0 0 _ h 0 [some (vR MO), some (vI (nI t))] [] h 0 0
  refine g_aload_n (pc' := 1) dX12_canMend_0 rfl rfl ?_
  refine g_getS (pc' := 4) (k := 18) (b := (118, 0)) dX12_canMend_1 rfl rfl ck_13 (by decide) fl_X12_44 rfl hs rfl ?_
  refine g_iload_n (pc' := 5) dX12_canMend_4 rfl rfl ?_
  refine g_ialdN (pc' := 6) (v := _) dX12_canMend_5 rfl rfl (by decide) (by omega) (rfl) ?_
  refine g_if_ne (tgt := 21) (pc' := 9) dX12_canMend_6 rfl (by decide) (fun c6 => ?_) (fun c6 => ?_)
  ·
    refine g_iconstN (n := 0) (pc' := 22) dX12_canMend_21 rfl ?_
    refine g_zret dX12_canMend_22 rfl (by rfl) (by decide) (by decide) ?_
    exact ⟨congrArg (fun z : Int32 => some (vI z)) (bi_f (P := mo h 118 t = 0 ∧ 0 < lck (mo h) t) (fun z => c6 z.1)).symm, rfl⟩
  ·
    refine g_aload_n (pc' := 10) dX12_canMend_9 rfl rfl ?_
    refine g_iload_n (pc' := 11) dX12_canMend_10 rfl rfl ?_
    refine g_invV (pc' := 14) (cm_lackingOf hok hs hw (t := t) (by omega)) dX12_canMend_11 rfl rfl ck_13 rfl ml_X12_390 im_X12_lackingOf sl_X12_lackingOf in_X12 co_X12_lackingOf pd_X12_lackingOf rfl (by omega) (by decide) ⟨by decide, by decide⟩ (Nat.le_of_ble_eq_true rfl) ?_
    rintro _ _ ⟨rfl, rfl⟩ -
    refine g_if_le (tgt := 21) (pc' := 17) dX12_canMend_14 rfl (by decide) (fun c14 => ?_) (fun c14 => ?_)
    ·
      refine g_iconstN (n := 0) (pc' := 22) dX12_canMend_21 rfl ?_
      refine g_zret dX12_canMend_22 rfl (by rfl) (by decide) (by decide) ?_
      exact ⟨congrArg (fun z : Int32 => some (vI z)) (bi_f (P := mo h 118 t = 0 ∧ 0 < lck (mo h) t) (fun z => absurd c14 (Int32.not_le.mpr z.2))).symm, rfl⟩
    ·
      refine g_iconstN (n := 1) (pc' := 18) dX12_canMend_17 rfl ?_
      refine g_goto (tgt := 22) dX12_canMend_18 (by decide) ?_
      refine g_zret dX12_canMend_22 rfl (by rfl) (by decide) (by decide) ?_
      exact ⟨congrArg (fun z : Int32 => some (vI z)) (bi_t (P := mo h 118 t = 0 ∧ 0 < lck (mo h) t) (⟨c6, Int32.not_le.mp c14⟩)).symm, rfl⟩
set_option maxRecDepth 4000 in
theorem cm_isSpare {E : En} (hok : EOK E) {h : Hp} (hs : Shp h.2) (hw : Wf (mo h)) {t : Nat} (ht : t < nT (mo h)) {k : Nat} (hk : k < 8) : Fn E m_X12_isSpare 3 [vR MO, vI (nI t), vI (nI k)] h (vI (bi (kd (mo h) t = k ∧ mo h 118 t = 0 ∧ ¬ isRec (mo h) t))) := by
  have hNw : h.1 MO 2 = nI (nW (mo h)) := hw.w.1
  have hNwb := hw.w.2
  have hC : h.1 MO 30 = nI (nC (mo h)) := hw.c.1
  have hCb := hw.c.2
  have hK : h.1 MO 3 = nI (nK (mo h)) := hw.k.1
  have hKb := hw.k.2
  have hT : h.1 MO 4 = nI (nT (mo h)) := hw.t.1
  have hTb := hw.t.2
  have hF : h.1 MO 5 = nI (nF (mo h)) := hw.f.1
  have hFb := hw.f.2
  have hRc : h.1 MO 59 = nI (nR (mo h)) := hw.r.1
  have hRb := hw.r.2
  have hG : h.1 MO 60 = nI (nGf (mo h)) := hw.g.1
  have hGb := hw.g.2
  have hA : h.1 MO 70 = nI (nA (mo h)) := hw.a.1
  have hAb := hw.a.2
  have hTl : h.1 MO 1 = nI (nTl (mo h)) := hw.tl.1
  have hTlb := hw.tl.2
  have hkd := (hw.kd ht).2
  refine Call.enter hok (by decide) (Nat.le_of_ble_eq_true rfl) ?_
  show G E m_X12_isSpare 3 0 0 _ h 0 [some (vR MO), some (vI (nI t)), some (vI (nI k))] [] h 0 0
  refine g_aload_n (pc' := 1) dX12_isSpare_0 rfl rfl ?_
  refine g_getS (pc' := 4) (k := 15) (b := (115, 0)) dX12_isSpare_1 rfl rfl ck_13 (by decide) fl_X12_35 rfl hs rfl ?_
  refine g_iload_n (pc' := 5) dX12_isSpare_4 rfl rfl ?_
  refine g_ialdN (pc' := 6) (v := nI (kd (mo h) t)) dX12_isSpare_5 rfl rfl (by decide) (by omega) ((hw.kd ht).1) ?_
  refine g_iload_n (pc' := 7) dX12_isSpare_6 rfl rfl ?_
  refine g_icmp_neN (tgt := 31) (pc' := 10) dX12_isSpare_7 rfl (by decide) (by omega) (by omega) (fun c7 => ?_) (fun c7 => ?_)
  ·
    refine g_iconstN (n := 0) (pc' := 32) dX12_isSpare_31 rfl ?_
    refine g_zret dX12_isSpare_32 rfl (by rfl) (by decide) (by decide) ?_
    exact ⟨congrArg (fun z : Int32 => some (vI z)) (bi_f (P := kd (mo h) t = k ∧ mo h 118 t = 0 ∧ ¬ isRec (mo h) t) (fun z => c7 z.1)).symm, rfl⟩
  ·
    refine g_aload_n (pc' := 11) dX12_isSpare_10 rfl rfl ?_
    refine g_getS (pc' := 14) (k := 18) (b := (118, 0)) dX12_isSpare_11 rfl rfl ck_13 (by decide) fl_X12_44 rfl hs rfl ?_
    refine g_iload_n (pc' := 15) dX12_isSpare_14 rfl rfl ?_
    refine g_ialdN (pc' := 16) (v := _) dX12_isSpare_15 rfl rfl (by decide) (by omega) (rfl) ?_
    refine g_if_ne (tgt := 31) (pc' := 19) dX12_isSpare_16 rfl (by decide) (fun c16 => ?_) (fun c16 => ?_)
    ·
      refine g_iconstN (n := 0) (pc' := 32) dX12_isSpare_31 rfl ?_
      refine g_zret dX12_isSpare_32 rfl (by rfl) (by decide) (by decide) ?_
      exact ⟨congrArg (fun z : Int32 => some (vI z)) (bi_f (P := kd (mo h) t = k ∧ mo h 118 t = 0 ∧ ¬ isRec (mo h) t) (fun z => c16 z.2.1)).symm, rfl⟩
    ·
      refine g_aload_n (pc' := 20) dX12_isSpare_19 rfl rfl ?_
      refine g_iload_n (pc' := 21) dX12_isSpare_20 rfl rfl ?_
      refine g_invV (pc' := 24) (cm_isRecalled hok hs hw (t := t) (by omega)) dX12_isSpare_21 rfl rfl ck_13 rfl ml_X12_452 im_X12_isRecalled sl_X12_isRecalled in_X12 co_X12_isRecalled pd_X12_isRecalled rfl (by omega) (by decide) ⟨by decide, by decide⟩ (Nat.le_of_ble_eq_true rfl) ?_
      rintro _ _ ⟨rfl, rfl⟩ -
      refine g_ifB_ne (tgt := 31) (pc' := 27) dX12_isSpare_24 rfl (by decide) (fun c24 => ?_) (fun c24 => ?_)
      ·
        refine g_iconstN (n := 0) (pc' := 32) dX12_isSpare_31 rfl ?_
        refine g_zret dX12_isSpare_32 rfl (by rfl) (by decide) (by decide) ?_
        exact ⟨congrArg (fun z : Int32 => some (vI z)) (bi_f (P := kd (mo h) t = k ∧ mo h 118 t = 0 ∧ ¬ isRec (mo h) t) (fun z => z.2.2 c24)).symm, rfl⟩
      ·
        refine g_iconstN (n := 1) (pc' := 28) dX12_isSpare_27 rfl ?_
        refine g_goto (tgt := 32) dX12_isSpare_28 (by decide) ?_
        refine g_zret dX12_isSpare_32 rfl (by rfl) (by decide) (by decide) ?_
        exact ⟨congrArg (fun z : Int32 => some (vI z)) (bi_t (P := kd (mo h) t = k ∧ mo h 118 t = 0 ∧ ¬ isRec (mo h) t) (⟨c7, c16, c24⟩)).symm, rfl⟩
set_option maxRecDepth 4000 in
theorem lm_isBarred {E : En} (hok : EOK E) {h h0 : Hp} (hs : Shp h.2) (hw : Wf (mo h)) {t f : Nat} (ht : t < nT (mo h)) (hf : f < nF (mo h)) {d : Nat} (hd : 0 ≤ d) {Q : Option V → Hp → Prop} (hQ : Q (some (vI (bi (barred (mo h) t f)))) h) : ∀ n g : Nat, g ≤ nGf (mo h) → nGf (mo h) - g = n → (∀ i, i < g → ¬ (mo h 167 i = nI t ∧ termBars (mo h) i f)) → G E m_X12_isBarred d 0 0 Q h0 2 [some (vR MO), some (vI (nI t)), some (vI (nI f)), some (vI (nI g)), none] [] h 0 0 := by
  have hNw : h.1 MO 2 = nI (nW (mo h)) := hw.w.1
  have hNwb := hw.w.2
  have hC : h.1 MO 30 = nI (nC (mo h)) := hw.c.1
  have hCb := hw.c.2
  have hK : h.1 MO 3 = nI (nK (mo h)) := hw.k.1
  have hKb := hw.k.2
  have hT : h.1 MO 4 = nI (nT (mo h)) := hw.t.1
  have hTb := hw.t.2
  have hF : h.1 MO 5 = nI (nF (mo h)) := hw.f.1
  have hFb := hw.f.2
  have hRc : h.1 MO 59 = nI (nR (mo h)) := hw.r.1
  have hRb := hw.r.2
  have hG : h.1 MO 60 = nI (nGf (mo h)) := hw.g.1
  have hGb := hw.g.2
  have hA : h.1 MO 70 = nI (nA (mo h)) := hw.a.1
  have hAb := hw.a.2
  have hTl : h.1 MO 1 = nI (nTl (mo h)) := hw.tl.1
  have hTlb := hw.tl.2
  intro n
  induction n with
  | zero =>
    intro g h1 h2 hi
    refine g_iload_n (pc' := 3) dX12_isBarred_2 rfl rfl ?_
    refine g_aload_n (pc' := 4) dX12_isBarred_3 rfl rfl ?_
    refine g_getIv (v := nI (nGf (mo h))) (pc' := 7) (k := 60) dX12_isBarred_4 rfl rfl ck_13 (by decide) fl_X12_426 rfl (hG) ?_
    refine g_icmp_geN (tgt := 115) (pc' := 10) dX12_isBarred_7 rfl (by decide) (by omega) (by omega) (fun c7 => ?_) (fun c7 => ?_)
    ·
      refine g_iconstN (n := 0) (pc' := 116) dX12_isBarred_115 rfl ?_
      refine g_zret dX12_isBarred_116 rfl (by rfl) (by decide) (by decide) ?_
      rw [bi_f (P := barred (mo h) t f) (by rintro ⟨i, q1, q2⟩; exact hi i (by omega) q2)] at hQ
      exact hQ
    · exact absurd c7 (by omega)
  | succ n ih =>
    intro g h1 h2 hi
    refine g_iload_n (pc' := 3) dX12_isBarred_2 rfl rfl ?_
    refine g_aload_n (pc' := 4) dX12_isBarred_3 rfl rfl ?_
    refine g_getIv (v := nI (nGf (mo h))) (pc' := 7) (k := 60) dX12_isBarred_4 rfl rfl ck_13 (by decide) fl_X12_426 rfl (hG) ?_
    refine g_icmp_geN (tgt := 115) (pc' := 10) dX12_isBarred_7 rfl (by decide) (by omega) (by omega) (fun c7 => ?_) (fun c7 => ?_)
    · exact absurd c7 (by omega)
    ·
      refine g_aload_n (pc' := 11) dX12_isBarred_10 rfl rfl ?_
      refine g_getS (pc' := 14) (k := 69) (b := (169, 0)) dX12_isBarred_11 rfl rfl ck_13 (by decide) fl_X12_150 rfl hs rfl ?_
      refine g_iload_n (pc' := 15) dX12_isBarred_14 rfl rfl ?_
      refine g_ialdN (pc' := 16) (v := _) dX12_isBarred_15 rfl rfl (by decide) (by omega) (rfl) ?_
      refine g_istore (pc' := 18) dX12_isBarred_16 rfl (by decide) rfl ?_
      try simp only [List.set]
      refine g_aload_n (pc' := 19) dX12_isBarred_18 rfl rfl ?_
      refine g_getS (pc' := 22) (k := 67) (b := (167, 0)) dX12_isBarred_19 rfl rfl ck_13 (by decide) fl_X12_144 rfl hs rfl ?_
      refine g_iload_n (pc' := 23) dX12_isBarred_22 rfl rfl ?_
      refine g_ialdN (pc' := 24) (v := _) dX12_isBarred_23 rfl rfl (by decide) (by omega) (rfl) ?_
      refine g_iload_n (pc' := 25) dX12_isBarred_24 rfl rfl ?_
      refine g_icmp_eq (tgt := 31) (pc' := 28) dX12_isBarred_25 rfl (by decide) (fun c25 => ?_) (fun c25 => ?_)
      ·
        refine g_aload_n (pc' := 32) dX12_isBarred_31 rfl rfl ?_
        refine g_getS (pc' := 35) (k := 68) (b := (168, 0)) dX12_isBarred_32 rfl rfl ck_13 (by decide) fl_X12_147 rfl hs rfl ?_
        refine g_iload_n (pc' := 36) dX12_isBarred_35 rfl rfl ?_
        refine g_ialdN (pc' := 37) (v := _) dX12_isBarred_36 rfl rfl (by decide) (by omega) (rfl) ?_
        refine g_if_ne (tgt := 51) (pc' := 40) dX12_isBarred_37 rfl (by decide) (fun c37 => ?_) (fun c37 => ?_)
        ·
          refine g_aload_n (pc' := 52) dX12_isBarred_51 rfl rfl ?_
          refine g_getS (pc' := 55) (k := 68) (b := (168, 0)) dX12_isBarred_52 rfl rfl ck_13 (by decide) fl_X12_147 rfl hs rfl ?_
          refine g_iload_n (pc' := 56) dX12_isBarred_55 rfl rfl ?_
          refine g_ialdN (pc' := 57) (v := _) dX12_isBarred_56 rfl rfl (by decide) (by omega) (rfl) ?_
          refine g_iconstN (n := 1) (pc' := 58) dX12_isBarred_57 rfl ?_
          refine g_icmp_ne (tgt := 67) (pc' := 61) dX12_isBarred_58 rfl (by decide) (fun c58 => ?_) (fun c58 => ?_)
          ·
            refine g_aload_n (pc' := 68) dX12_isBarred_67 rfl rfl ?_
            refine g_getS (pc' := 71) (k := 68) (b := (168, 0)) dX12_isBarred_68 rfl rfl ck_13 (by decide) fl_X12_147 rfl hs rfl ?_
            refine g_iload_n (pc' := 72) dX12_isBarred_71 rfl rfl ?_
            refine g_ialdN (pc' := 73) (v := _) dX12_isBarred_72 rfl rfl (by decide) (by omega) (rfl) ?_
            refine g_iconstN (n := 2) (pc' := 74) dX12_isBarred_73 rfl ?_
            refine g_icmp_ne (tgt := 86) (pc' := 77) dX12_isBarred_74 rfl (by decide) (fun c74 => ?_) (fun c74 => ?_)
            ·
              refine g_aload_n (pc' := 87) dX12_isBarred_86 rfl rfl ?_
              refine g_getS (pc' := 90) (k := 68) (b := (168, 0)) dX12_isBarred_87 rfl rfl ck_13 (by decide) fl_X12_147 rfl hs rfl ?_
              refine g_iload_n (pc' := 91) dX12_isBarred_90 rfl rfl ?_
              refine g_ialdN (pc' := 92) (v := _) dX12_isBarred_91 rfl rfl (by decide) (by omega) (rfl) ?_
              refine g_iconstN (n := 3) (pc' := 93) dX12_isBarred_92 rfl ?_
              refine g_icmp_ne (tgt := 109) (pc' := 96) dX12_isBarred_93 rfl (by decide) (fun c93 => ?_) (fun c93 => ?_)
              ·
                refine g_iincN (k := 1) (pc' := 112) dX12_isBarred_109 rfl rfl (by decide) rfl ?_
                try simp only [List.set]
                refine g_goto (tgt := 2) dX12_isBarred_112 (by decide) ?_
                refine G.drop 4 ?_
                simp only [List.set]
                refine ih (g + 1) (by omega) (by omega) (lt_s hi ?_)
                rintro ⟨q1, q2⟩
                rcases q2 with ⟨z1, z2⟩ | ⟨z1, z2⟩ | ⟨z1, z2⟩ | ⟨z1, z2⟩
                · exact c37 z1
                · exact c58 z1
                · exact c74 z1
                · exact c93 z1
              ·
                refine g_aload_n (pc' := 97) dX12_isBarred_96 rfl rfl ?_
                refine g_getS (pc' := 100) (k := 27) (b := (127, 0)) dX12_isBarred_97 rfl rfl ck_13 (by decide) fl_X12_72 rfl hs rfl ?_
                refine g_iload_n (pc' := 101) dX12_isBarred_100 rfl rfl ?_
                refine g_ialdN (pc' := 102) (v := _) dX12_isBarred_101 rfl rfl (by decide) (by omega) (rfl) ?_
                refine g_iload (pc' := 104) dX12_isBarred_102 rfl rfl ?_
                refine g_icmp_ge (tgt := 109) (pc' := 107) dX12_isBarred_104 rfl (by decide) (fun c104 => ?_) (fun c104 => ?_)
                ·
                  refine g_iincN (k := 1) (pc' := 112) dX12_isBarred_109 rfl rfl (by decide) rfl ?_
                  try simp only [List.set]
                  refine g_goto (tgt := 2) dX12_isBarred_112 (by decide) ?_
                  refine G.drop 4 ?_
                  simp only [List.set]
                  refine ih (g + 1) (by omega) (by omega) (lt_s hi ?_)
                  rintro ⟨q1, q2⟩
                  rcases q2 with ⟨z1, z2⟩ | ⟨z1, z2⟩ | ⟨z1, z2⟩ | ⟨z1, z2⟩
                  · exact c37 z1
                  · exact c58 z1
                  · exact c74 z1
                  · exact Int32.not_le.mpr z2 c104
                ·
                  refine g_iconstN (n := 1) (pc' := 108) dX12_isBarred_107 rfl ?_
                  refine g_zret dX12_isBarred_108 rfl (by rfl) (by decide) (by decide) ?_
                  have q : barred (mo h) t f := ⟨g, by omega, c25, Or.inr (Or.inr (Or.inr ⟨c93, Int32.not_le.mp c104⟩))⟩
                  rw [bi_t q] at hQ
                  exact hQ
            ·
              refine g_aload_n (pc' := 78) dX12_isBarred_77 rfl rfl ?_
              refine g_getI (pc' := 81) (k := 2) dX12_isBarred_78 rfl rfl ck_13 (by decide) fl_X12_219 rfl ?_
              refine g_iload (pc' := 83) dX12_isBarred_81 rfl rfl ?_
              refine g_icmp_gt (tgt := 107) (pc' := 86) dX12_isBarred_83 rfl (by decide) (fun c83 => ?_) (fun c83 => ?_)
              ·
                refine g_iconstN (n := 1) (pc' := 108) dX12_isBarred_107 rfl ?_
                refine g_zret dX12_isBarred_108 rfl (by rfl) (by decide) (by decide) ?_
                have q : barred (mo h) t f := ⟨g, by omega, c25, Or.inr (Or.inr (Or.inl ⟨c74, c83⟩))⟩
                rw [bi_t q] at hQ
                exact hQ
              ·
                refine g_aload_n (pc' := 87) dX12_isBarred_86 rfl rfl ?_
                refine g_getS (pc' := 90) (k := 68) (b := (168, 0)) dX12_isBarred_87 rfl rfl ck_13 (by decide) fl_X12_147 rfl hs rfl ?_
                refine g_iload_n (pc' := 91) dX12_isBarred_90 rfl rfl ?_
                refine g_ialdN (pc' := 92) (v := _) dX12_isBarred_91 rfl rfl (by decide) (by omega) (rfl) ?_
                refine g_iconstN (n := 3) (pc' := 93) dX12_isBarred_92 rfl ?_
                refine g_icmp_ne (tgt := 109) (pc' := 96) dX12_isBarred_93 rfl (by decide) (fun c93 => ?_) (fun c93 => ?_)
                ·
                  refine g_iincN (k := 1) (pc' := 112) dX12_isBarred_109 rfl rfl (by decide) rfl ?_
                  try simp only [List.set]
                  refine g_goto (tgt := 2) dX12_isBarred_112 (by decide) ?_
                  refine G.drop 4 ?_
                  simp only [List.set]
                  refine ih (g + 1) (by omega) (by omega) (lt_s hi ?_)
                  rintro ⟨q1, q2⟩
                  rcases q2 with ⟨z1, z2⟩ | ⟨z1, z2⟩ | ⟨z1, z2⟩ | ⟨z1, z2⟩
                  · exact c37 z1
                  · exact c58 z1
                  · exact c83 z2
                  · exact c93 z1
                ·
                  refine g_aload_n (pc' := 97) dX12_isBarred_96 rfl rfl ?_
                  refine g_getS (pc' := 100) (k := 27) (b := (127, 0)) dX12_isBarred_97 rfl rfl ck_13 (by decide) fl_X12_72 rfl hs rfl ?_
                  refine g_iload_n (pc' := 101) dX12_isBarred_100 rfl rfl ?_
                  refine g_ialdN (pc' := 102) (v := _) dX12_isBarred_101 rfl rfl (by decide) (by omega) (rfl) ?_
                  refine g_iload (pc' := 104) dX12_isBarred_102 rfl rfl ?_
                  refine g_icmp_ge (tgt := 109) (pc' := 107) dX12_isBarred_104 rfl (by decide) (fun c104 => ?_) (fun c104 => ?_)
                  ·
                    refine g_iincN (k := 1) (pc' := 112) dX12_isBarred_109 rfl rfl (by decide) rfl ?_
                    try simp only [List.set]
                    refine g_goto (tgt := 2) dX12_isBarred_112 (by decide) ?_
                    refine G.drop 4 ?_
                    simp only [List.set]
                    refine ih (g + 1) (by omega) (by omega) (lt_s hi ?_)
                    rintro ⟨q1, q2⟩
                    rcases q2 with ⟨z1, z2⟩ | ⟨z1, z2⟩ | ⟨z1, z2⟩ | ⟨z1, z2⟩
                    · exact c37 z1
                    · exact c58 z1
                    · exact c83 z2
                    · exact Int32.not_le.mpr z2 c104
                  ·
                    refine g_iconstN (n := 1) (pc' := 108) dX12_isBarred_107 rfl ?_
                    refine g_zret dX12_isBarred_108 rfl (by rfl) (by decide) (by decide) ?_
                    have q : barred (mo h) t f := ⟨g, by omega, c25, Or.inr (Or.inr (Or.inr ⟨c93, Int32.not_le.mp c104⟩))⟩
                    rw [bi_t q] at hQ
                    exact hQ
          ·
            refine g_iload_n (pc' := 62) dX12_isBarred_61 rfl rfl ?_
            refine g_iload (pc' := 64) dX12_isBarred_62 rfl rfl ?_
            refine g_icmp_eq (tgt := 107) (pc' := 67) dX12_isBarred_64 rfl (by decide) (fun c64 => ?_) (fun c64 => ?_)
            ·
              refine g_iconstN (n := 1) (pc' := 108) dX12_isBarred_107 rfl ?_
              refine g_zret dX12_isBarred_108 rfl (by rfl) (by decide) (by decide) ?_
              have q : barred (mo h) t f := ⟨g, by omega, c25, Or.inr (Or.inl ⟨c58, c64⟩)⟩
              rw [bi_t q] at hQ
              exact hQ
            ·
              refine g_aload_n (pc' := 68) dX12_isBarred_67 rfl rfl ?_
              refine g_getS (pc' := 71) (k := 68) (b := (168, 0)) dX12_isBarred_68 rfl rfl ck_13 (by decide) fl_X12_147 rfl hs rfl ?_
              refine g_iload_n (pc' := 72) dX12_isBarred_71 rfl rfl ?_
              refine g_ialdN (pc' := 73) (v := _) dX12_isBarred_72 rfl rfl (by decide) (by omega) (rfl) ?_
              refine g_iconstN (n := 2) (pc' := 74) dX12_isBarred_73 rfl ?_
              refine g_icmp_ne (tgt := 86) (pc' := 77) dX12_isBarred_74 rfl (by decide) (fun c74 => ?_) (fun c74 => ?_)
              ·
                refine g_aload_n (pc' := 87) dX12_isBarred_86 rfl rfl ?_
                refine g_getS (pc' := 90) (k := 68) (b := (168, 0)) dX12_isBarred_87 rfl rfl ck_13 (by decide) fl_X12_147 rfl hs rfl ?_
                refine g_iload_n (pc' := 91) dX12_isBarred_90 rfl rfl ?_
                refine g_ialdN (pc' := 92) (v := _) dX12_isBarred_91 rfl rfl (by decide) (by omega) (rfl) ?_
                refine g_iconstN (n := 3) (pc' := 93) dX12_isBarred_92 rfl ?_
                refine g_icmp_ne (tgt := 109) (pc' := 96) dX12_isBarred_93 rfl (by decide) (fun c93 => ?_) (fun c93 => ?_)
                ·
                  refine g_iincN (k := 1) (pc' := 112) dX12_isBarred_109 rfl rfl (by decide) rfl ?_
                  try simp only [List.set]
                  refine g_goto (tgt := 2) dX12_isBarred_112 (by decide) ?_
                  refine G.drop 4 ?_
                  simp only [List.set]
                  refine ih (g + 1) (by omega) (by omega) (lt_s hi ?_)
                  rintro ⟨q1, q2⟩
                  rcases q2 with ⟨z1, z2⟩ | ⟨z1, z2⟩ | ⟨z1, z2⟩ | ⟨z1, z2⟩
                  · exact c37 z1
                  · exact c64 z2
                  · exact c74 z1
                  · exact c93 z1
                ·
                  refine g_aload_n (pc' := 97) dX12_isBarred_96 rfl rfl ?_
                  refine g_getS (pc' := 100) (k := 27) (b := (127, 0)) dX12_isBarred_97 rfl rfl ck_13 (by decide) fl_X12_72 rfl hs rfl ?_
                  refine g_iload_n (pc' := 101) dX12_isBarred_100 rfl rfl ?_
                  refine g_ialdN (pc' := 102) (v := _) dX12_isBarred_101 rfl rfl (by decide) (by omega) (rfl) ?_
                  refine g_iload (pc' := 104) dX12_isBarred_102 rfl rfl ?_
                  refine g_icmp_ge (tgt := 109) (pc' := 107) dX12_isBarred_104 rfl (by decide) (fun c104 => ?_) (fun c104 => ?_)
                  ·
                    refine g_iincN (k := 1) (pc' := 112) dX12_isBarred_109 rfl rfl (by decide) rfl ?_
                    try simp only [List.set]
                    refine g_goto (tgt := 2) dX12_isBarred_112 (by decide) ?_
                    refine G.drop 4 ?_
                    simp only [List.set]
                    refine ih (g + 1) (by omega) (by omega) (lt_s hi ?_)
                    rintro ⟨q1, q2⟩
                    rcases q2 with ⟨z1, z2⟩ | ⟨z1, z2⟩ | ⟨z1, z2⟩ | ⟨z1, z2⟩
                    · exact c37 z1
                    · exact c64 z2
                    · exact c74 z1
                    · exact Int32.not_le.mpr z2 c104
                  ·
                    refine g_iconstN (n := 1) (pc' := 108) dX12_isBarred_107 rfl ?_
                    refine g_zret dX12_isBarred_108 rfl (by rfl) (by decide) (by decide) ?_
                    have q : barred (mo h) t f := ⟨g, by omega, c25, Or.inr (Or.inr (Or.inr ⟨c93, Int32.not_le.mp c104⟩))⟩
                    rw [bi_t q] at hQ
                    exact hQ
              ·
                refine g_aload_n (pc' := 78) dX12_isBarred_77 rfl rfl ?_
                refine g_getI (pc' := 81) (k := 2) dX12_isBarred_78 rfl rfl ck_13 (by decide) fl_X12_219 rfl ?_
                refine g_iload (pc' := 83) dX12_isBarred_81 rfl rfl ?_
                refine g_icmp_gt (tgt := 107) (pc' := 86) dX12_isBarred_83 rfl (by decide) (fun c83 => ?_) (fun c83 => ?_)
                ·
                  refine g_iconstN (n := 1) (pc' := 108) dX12_isBarred_107 rfl ?_
                  refine g_zret dX12_isBarred_108 rfl (by rfl) (by decide) (by decide) ?_
                  have q : barred (mo h) t f := ⟨g, by omega, c25, Or.inr (Or.inr (Or.inl ⟨c74, c83⟩))⟩
                  rw [bi_t q] at hQ
                  exact hQ
                ·
                  refine g_aload_n (pc' := 87) dX12_isBarred_86 rfl rfl ?_
                  refine g_getS (pc' := 90) (k := 68) (b := (168, 0)) dX12_isBarred_87 rfl rfl ck_13 (by decide) fl_X12_147 rfl hs rfl ?_
                  refine g_iload_n (pc' := 91) dX12_isBarred_90 rfl rfl ?_
                  refine g_ialdN (pc' := 92) (v := _) dX12_isBarred_91 rfl rfl (by decide) (by omega) (rfl) ?_
                  refine g_iconstN (n := 3) (pc' := 93) dX12_isBarred_92 rfl ?_
                  refine g_icmp_ne (tgt := 109) (pc' := 96) dX12_isBarred_93 rfl (by decide) (fun c93 => ?_) (fun c93 => ?_)
                  ·
                    refine g_iincN (k := 1) (pc' := 112) dX12_isBarred_109 rfl rfl (by decide) rfl ?_
                    try simp only [List.set]
                    refine g_goto (tgt := 2) dX12_isBarred_112 (by decide) ?_
                    refine G.drop 4 ?_
                    simp only [List.set]
                    refine ih (g + 1) (by omega) (by omega) (lt_s hi ?_)
                    rintro ⟨q1, q2⟩
                    rcases q2 with ⟨z1, z2⟩ | ⟨z1, z2⟩ | ⟨z1, z2⟩ | ⟨z1, z2⟩
                    · exact c37 z1
                    · exact c64 z2
                    · exact c83 z2
                    · exact c93 z1
                  ·
                    refine g_aload_n (pc' := 97) dX12_isBarred_96 rfl rfl ?_
                    refine g_getS (pc' := 100) (k := 27) (b := (127, 0)) dX12_isBarred_97 rfl rfl ck_13 (by decide) fl_X12_72 rfl hs rfl ?_
                    refine g_iload_n (pc' := 101) dX12_isBarred_100 rfl rfl ?_
                    refine g_ialdN (pc' := 102) (v := _) dX12_isBarred_101 rfl rfl (by decide) (by omega) (rfl) ?_
                    refine g_iload (pc' := 104) dX12_isBarred_102 rfl rfl ?_
                    refine g_icmp_ge (tgt := 109) (pc' := 107) dX12_isBarred_104 rfl (by decide) (fun c104 => ?_) (fun c104 => ?_)
                    ·
                      refine g_iincN (k := 1) (pc' := 112) dX12_isBarred_109 rfl rfl (by decide) rfl ?_
                      try simp only [List.set]
                      refine g_goto (tgt := 2) dX12_isBarred_112 (by decide) ?_
                      refine G.drop 4 ?_
                      simp only [List.set]
                      refine ih (g + 1) (by omega) (by omega) (lt_s hi ?_)
                      rintro ⟨q1, q2⟩
                      rcases q2 with ⟨z1, z2⟩ | ⟨z1, z2⟩ | ⟨z1, z2⟩ | ⟨z1, z2⟩
                      · exact c37 z1
                      · exact c64 z2
                      · exact c83 z2
                      · exact Int32.not_le.mpr z2 c104
                    ·
                      refine g_iconstN (n := 1) (pc' := 108) dX12_isBarred_107 rfl ?_
                      refine g_zret dX12_isBarred_108 rfl (by rfl) (by decide) (by decide) ?_
                      have q : barred (mo h) t f := ⟨g, by omega, c25, Or.inr (Or.inr (Or.inr ⟨c93, Int32.not_le.mp c104⟩))⟩
                      rw [bi_t q] at hQ
                      exact hQ
        ·
          refine g_aload_n (pc' := 41) dX12_isBarred_40 rfl rfl ?_
          refine g_getS (pc' := 44) (k := 28) (b := (128, 0)) dX12_isBarred_41 rfl rfl ck_13 (by decide) fl_X12_75 rfl hs rfl ?_
          refine g_iload_n (pc' := 45) dX12_isBarred_44 rfl rfl ?_
          refine g_ialdN (pc' := 46) (v := _) dX12_isBarred_45 rfl rfl (by decide) (by omega) (rfl) ?_
          refine g_iload (pc' := 48) dX12_isBarred_46 rfl rfl ?_
          refine g_icmp_ne (tgt := 107) (pc' := 51) dX12_isBarred_48 rfl (by decide) (fun c48 => ?_) (fun c48 => ?_)
          ·
            refine g_iconstN (n := 1) (pc' := 108) dX12_isBarred_107 rfl ?_
            refine g_zret dX12_isBarred_108 rfl (by rfl) (by decide) (by decide) ?_
            have q : barred (mo h) t f := ⟨g, by omega, c25, Or.inl ⟨c37, c48⟩⟩
            rw [bi_t q] at hQ
            exact hQ
          ·
            refine g_aload_n (pc' := 52) dX12_isBarred_51 rfl rfl ?_
            refine g_getS (pc' := 55) (k := 68) (b := (168, 0)) dX12_isBarred_52 rfl rfl ck_13 (by decide) fl_X12_147 rfl hs rfl ?_
            refine g_iload_n (pc' := 56) dX12_isBarred_55 rfl rfl ?_
            refine g_ialdN (pc' := 57) (v := _) dX12_isBarred_56 rfl rfl (by decide) (by omega) (rfl) ?_
            refine g_iconstN (n := 1) (pc' := 58) dX12_isBarred_57 rfl ?_
            refine g_icmp_ne (tgt := 67) (pc' := 61) dX12_isBarred_58 rfl (by decide) (fun c58 => ?_) (fun c58 => ?_)
            ·
              refine g_aload_n (pc' := 68) dX12_isBarred_67 rfl rfl ?_
              refine g_getS (pc' := 71) (k := 68) (b := (168, 0)) dX12_isBarred_68 rfl rfl ck_13 (by decide) fl_X12_147 rfl hs rfl ?_
              refine g_iload_n (pc' := 72) dX12_isBarred_71 rfl rfl ?_
              refine g_ialdN (pc' := 73) (v := _) dX12_isBarred_72 rfl rfl (by decide) (by omega) (rfl) ?_
              refine g_iconstN (n := 2) (pc' := 74) dX12_isBarred_73 rfl ?_
              refine g_icmp_ne (tgt := 86) (pc' := 77) dX12_isBarred_74 rfl (by decide) (fun c74 => ?_) (fun c74 => ?_)
              ·
                refine g_aload_n (pc' := 87) dX12_isBarred_86 rfl rfl ?_
                refine g_getS (pc' := 90) (k := 68) (b := (168, 0)) dX12_isBarred_87 rfl rfl ck_13 (by decide) fl_X12_147 rfl hs rfl ?_
                refine g_iload_n (pc' := 91) dX12_isBarred_90 rfl rfl ?_
                refine g_ialdN (pc' := 92) (v := _) dX12_isBarred_91 rfl rfl (by decide) (by omega) (rfl) ?_
                refine g_iconstN (n := 3) (pc' := 93) dX12_isBarred_92 rfl ?_
                refine g_icmp_ne (tgt := 109) (pc' := 96) dX12_isBarred_93 rfl (by decide) (fun c93 => ?_) (fun c93 => ?_)
                ·
                  refine g_iincN (k := 1) (pc' := 112) dX12_isBarred_109 rfl rfl (by decide) rfl ?_
                  try simp only [List.set]
                  refine g_goto (tgt := 2) dX12_isBarred_112 (by decide) ?_
                  refine G.drop 4 ?_
                  simp only [List.set]
                  refine ih (g + 1) (by omega) (by omega) (lt_s hi ?_)
                  rintro ⟨q1, q2⟩
                  rcases q2 with ⟨z1, z2⟩ | ⟨z1, z2⟩ | ⟨z1, z2⟩ | ⟨z1, z2⟩
                  · exact z2 c48
                  · exact c58 z1
                  · exact c74 z1
                  · exact c93 z1
                ·
                  refine g_aload_n (pc' := 97) dX12_isBarred_96 rfl rfl ?_
                  refine g_getS (pc' := 100) (k := 27) (b := (127, 0)) dX12_isBarred_97 rfl rfl ck_13 (by decide) fl_X12_72 rfl hs rfl ?_
                  refine g_iload_n (pc' := 101) dX12_isBarred_100 rfl rfl ?_
                  refine g_ialdN (pc' := 102) (v := _) dX12_isBarred_101 rfl rfl (by decide) (by omega) (rfl) ?_
                  refine g_iload (pc' := 104) dX12_isBarred_102 rfl rfl ?_
                  refine g_icmp_ge (tgt := 109) (pc' := 107) dX12_isBarred_104 rfl (by decide) (fun c104 => ?_) (fun c104 => ?_)
                  ·
                    refine g_iincN (k := 1) (pc' := 112) dX12_isBarred_109 rfl rfl (by decide) rfl ?_
                    try simp only [List.set]
                    refine g_goto (tgt := 2) dX12_isBarred_112 (by decide) ?_
                    refine G.drop 4 ?_
                    simp only [List.set]
                    refine ih (g + 1) (by omega) (by omega) (lt_s hi ?_)
                    rintro ⟨q1, q2⟩
                    rcases q2 with ⟨z1, z2⟩ | ⟨z1, z2⟩ | ⟨z1, z2⟩ | ⟨z1, z2⟩
                    · exact z2 c48
                    · exact c58 z1
                    · exact c74 z1
                    · exact Int32.not_le.mpr z2 c104
                  ·
                    refine g_iconstN (n := 1) (pc' := 108) dX12_isBarred_107 rfl ?_
                    refine g_zret dX12_isBarred_108 rfl (by rfl) (by decide) (by decide) ?_
                    have q : barred (mo h) t f := ⟨g, by omega, c25, Or.inr (Or.inr (Or.inr ⟨c93, Int32.not_le.mp c104⟩))⟩
                    rw [bi_t q] at hQ
                    exact hQ
              ·
                refine g_aload_n (pc' := 78) dX12_isBarred_77 rfl rfl ?_
                refine g_getI (pc' := 81) (k := 2) dX12_isBarred_78 rfl rfl ck_13 (by decide) fl_X12_219 rfl ?_
                refine g_iload (pc' := 83) dX12_isBarred_81 rfl rfl ?_
                refine g_icmp_gt (tgt := 107) (pc' := 86) dX12_isBarred_83 rfl (by decide) (fun c83 => ?_) (fun c83 => ?_)
                ·
                  refine g_iconstN (n := 1) (pc' := 108) dX12_isBarred_107 rfl ?_
                  refine g_zret dX12_isBarred_108 rfl (by rfl) (by decide) (by decide) ?_
                  have q : barred (mo h) t f := ⟨g, by omega, c25, Or.inr (Or.inr (Or.inl ⟨c74, c83⟩))⟩
                  rw [bi_t q] at hQ
                  exact hQ
                ·
                  refine g_aload_n (pc' := 87) dX12_isBarred_86 rfl rfl ?_
                  refine g_getS (pc' := 90) (k := 68) (b := (168, 0)) dX12_isBarred_87 rfl rfl ck_13 (by decide) fl_X12_147 rfl hs rfl ?_
                  refine g_iload_n (pc' := 91) dX12_isBarred_90 rfl rfl ?_
                  refine g_ialdN (pc' := 92) (v := _) dX12_isBarred_91 rfl rfl (by decide) (by omega) (rfl) ?_
                  refine g_iconstN (n := 3) (pc' := 93) dX12_isBarred_92 rfl ?_
                  refine g_icmp_ne (tgt := 109) (pc' := 96) dX12_isBarred_93 rfl (by decide) (fun c93 => ?_) (fun c93 => ?_)
                  ·
                    refine g_iincN (k := 1) (pc' := 112) dX12_isBarred_109 rfl rfl (by decide) rfl ?_
                    try simp only [List.set]
                    refine g_goto (tgt := 2) dX12_isBarred_112 (by decide) ?_
                    refine G.drop 4 ?_
                    simp only [List.set]
                    refine ih (g + 1) (by omega) (by omega) (lt_s hi ?_)
                    rintro ⟨q1, q2⟩
                    rcases q2 with ⟨z1, z2⟩ | ⟨z1, z2⟩ | ⟨z1, z2⟩ | ⟨z1, z2⟩
                    · exact z2 c48
                    · exact c58 z1
                    · exact c83 z2
                    · exact c93 z1
                  ·
                    refine g_aload_n (pc' := 97) dX12_isBarred_96 rfl rfl ?_
                    refine g_getS (pc' := 100) (k := 27) (b := (127, 0)) dX12_isBarred_97 rfl rfl ck_13 (by decide) fl_X12_72 rfl hs rfl ?_
                    refine g_iload_n (pc' := 101) dX12_isBarred_100 rfl rfl ?_
                    refine g_ialdN (pc' := 102) (v := _) dX12_isBarred_101 rfl rfl (by decide) (by omega) (rfl) ?_
                    refine g_iload (pc' := 104) dX12_isBarred_102 rfl rfl ?_
                    refine g_icmp_ge (tgt := 109) (pc' := 107) dX12_isBarred_104 rfl (by decide) (fun c104 => ?_) (fun c104 => ?_)
                    ·
                      refine g_iincN (k := 1) (pc' := 112) dX12_isBarred_109 rfl rfl (by decide) rfl ?_
                      try simp only [List.set]
                      refine g_goto (tgt := 2) dX12_isBarred_112 (by decide) ?_
                      refine G.drop 4 ?_
                      simp only [List.set]
                      refine ih (g + 1) (by omega) (by omega) (lt_s hi ?_)
                      rintro ⟨q1, q2⟩
                      rcases q2 with ⟨z1, z2⟩ | ⟨z1, z2⟩ | ⟨z1, z2⟩ | ⟨z1, z2⟩
                      · exact z2 c48
                      · exact c58 z1
                      · exact c83 z2
                      · exact Int32.not_le.mpr z2 c104
                    ·
                      refine g_iconstN (n := 1) (pc' := 108) dX12_isBarred_107 rfl ?_
                      refine g_zret dX12_isBarred_108 rfl (by rfl) (by decide) (by decide) ?_
                      have q : barred (mo h) t f := ⟨g, by omega, c25, Or.inr (Or.inr (Or.inr ⟨c93, Int32.not_le.mp c104⟩))⟩
                      rw [bi_t q] at hQ
                      exact hQ
            ·
              refine g_iload_n (pc' := 62) dX12_isBarred_61 rfl rfl ?_
              refine g_iload (pc' := 64) dX12_isBarred_62 rfl rfl ?_
              refine g_icmp_eq (tgt := 107) (pc' := 67) dX12_isBarred_64 rfl (by decide) (fun c64 => ?_) (fun c64 => ?_)
              ·
                refine g_iconstN (n := 1) (pc' := 108) dX12_isBarred_107 rfl ?_
                refine g_zret dX12_isBarred_108 rfl (by rfl) (by decide) (by decide) ?_
                have q : barred (mo h) t f := ⟨g, by omega, c25, Or.inr (Or.inl ⟨c58, c64⟩)⟩
                rw [bi_t q] at hQ
                exact hQ
              ·
                refine g_aload_n (pc' := 68) dX12_isBarred_67 rfl rfl ?_
                refine g_getS (pc' := 71) (k := 68) (b := (168, 0)) dX12_isBarred_68 rfl rfl ck_13 (by decide) fl_X12_147 rfl hs rfl ?_
                refine g_iload_n (pc' := 72) dX12_isBarred_71 rfl rfl ?_
                refine g_ialdN (pc' := 73) (v := _) dX12_isBarred_72 rfl rfl (by decide) (by omega) (rfl) ?_
                refine g_iconstN (n := 2) (pc' := 74) dX12_isBarred_73 rfl ?_
                refine g_icmp_ne (tgt := 86) (pc' := 77) dX12_isBarred_74 rfl (by decide) (fun c74 => ?_) (fun c74 => ?_)
                ·
                  refine g_aload_n (pc' := 87) dX12_isBarred_86 rfl rfl ?_
                  refine g_getS (pc' := 90) (k := 68) (b := (168, 0)) dX12_isBarred_87 rfl rfl ck_13 (by decide) fl_X12_147 rfl hs rfl ?_
                  refine g_iload_n (pc' := 91) dX12_isBarred_90 rfl rfl ?_
                  refine g_ialdN (pc' := 92) (v := _) dX12_isBarred_91 rfl rfl (by decide) (by omega) (rfl) ?_
                  refine g_iconstN (n := 3) (pc' := 93) dX12_isBarred_92 rfl ?_
                  refine g_icmp_ne (tgt := 109) (pc' := 96) dX12_isBarred_93 rfl (by decide) (fun c93 => ?_) (fun c93 => ?_)
                  ·
                    refine g_iincN (k := 1) (pc' := 112) dX12_isBarred_109 rfl rfl (by decide) rfl ?_
                    try simp only [List.set]
                    refine g_goto (tgt := 2) dX12_isBarred_112 (by decide) ?_
                    refine G.drop 4 ?_
                    simp only [List.set]
                    refine ih (g + 1) (by omega) (by omega) (lt_s hi ?_)
                    rintro ⟨q1, q2⟩
                    rcases q2 with ⟨z1, z2⟩ | ⟨z1, z2⟩ | ⟨z1, z2⟩ | ⟨z1, z2⟩
                    · exact z2 c48
                    · exact c64 z2
                    · exact c74 z1
                    · exact c93 z1
                  ·
                    refine g_aload_n (pc' := 97) dX12_isBarred_96 rfl rfl ?_
                    refine g_getS (pc' := 100) (k := 27) (b := (127, 0)) dX12_isBarred_97 rfl rfl ck_13 (by decide) fl_X12_72 rfl hs rfl ?_
                    refine g_iload_n (pc' := 101) dX12_isBarred_100 rfl rfl ?_
                    refine g_ialdN (pc' := 102) (v := _) dX12_isBarred_101 rfl rfl (by decide) (by omega) (rfl) ?_
                    refine g_iload (pc' := 104) dX12_isBarred_102 rfl rfl ?_
                    refine g_icmp_ge (tgt := 109) (pc' := 107) dX12_isBarred_104 rfl (by decide) (fun c104 => ?_) (fun c104 => ?_)
                    ·
                      refine g_iincN (k := 1) (pc' := 112) dX12_isBarred_109 rfl rfl (by decide) rfl ?_
                      try simp only [List.set]
                      refine g_goto (tgt := 2) dX12_isBarred_112 (by decide) ?_
                      refine G.drop 4 ?_
                      simp only [List.set]
                      refine ih (g + 1) (by omega) (by omega) (lt_s hi ?_)
                      rintro ⟨q1, q2⟩
                      rcases q2 with ⟨z1, z2⟩ | ⟨z1, z2⟩ | ⟨z1, z2⟩ | ⟨z1, z2⟩
                      · exact z2 c48
                      · exact c64 z2
                      · exact c74 z1
                      · exact Int32.not_le.mpr z2 c104
                    ·
                      refine g_iconstN (n := 1) (pc' := 108) dX12_isBarred_107 rfl ?_
                      refine g_zret dX12_isBarred_108 rfl (by rfl) (by decide) (by decide) ?_
                      have q : barred (mo h) t f := ⟨g, by omega, c25, Or.inr (Or.inr (Or.inr ⟨c93, Int32.not_le.mp c104⟩))⟩
                      rw [bi_t q] at hQ
                      exact hQ
                ·
                  refine g_aload_n (pc' := 78) dX12_isBarred_77 rfl rfl ?_
                  refine g_getI (pc' := 81) (k := 2) dX12_isBarred_78 rfl rfl ck_13 (by decide) fl_X12_219 rfl ?_
                  refine g_iload (pc' := 83) dX12_isBarred_81 rfl rfl ?_
                  refine g_icmp_gt (tgt := 107) (pc' := 86) dX12_isBarred_83 rfl (by decide) (fun c83 => ?_) (fun c83 => ?_)
                  ·
                    refine g_iconstN (n := 1) (pc' := 108) dX12_isBarred_107 rfl ?_
                    refine g_zret dX12_isBarred_108 rfl (by rfl) (by decide) (by decide) ?_
                    have q : barred (mo h) t f := ⟨g, by omega, c25, Or.inr (Or.inr (Or.inl ⟨c74, c83⟩))⟩
                    rw [bi_t q] at hQ
                    exact hQ
                  ·
                    refine g_aload_n (pc' := 87) dX12_isBarred_86 rfl rfl ?_
                    refine g_getS (pc' := 90) (k := 68) (b := (168, 0)) dX12_isBarred_87 rfl rfl ck_13 (by decide) fl_X12_147 rfl hs rfl ?_
                    refine g_iload_n (pc' := 91) dX12_isBarred_90 rfl rfl ?_
                    refine g_ialdN (pc' := 92) (v := _) dX12_isBarred_91 rfl rfl (by decide) (by omega) (rfl) ?_
                    refine g_iconstN (n := 3) (pc' := 93) dX12_isBarred_92 rfl ?_
                    refine g_icmp_ne (tgt := 109) (pc' := 96) dX12_isBarred_93 rfl (by decide) (fun c93 => ?_) (fun c93 => ?_)
                    ·
                      refine g_iincN (k := 1) (pc' := 112) dX12_isBarred_109 rfl rfl (by decide) rfl ?_
                      try simp only [List.set]
                      refine g_goto (tgt := 2) dX12_isBarred_112 (by decide) ?_
                      refine G.drop 4 ?_
                      simp only [List.set]
                      refine ih (g + 1) (by omega) (by omega) (lt_s hi ?_)
                      rintro ⟨q1, q2⟩
                      rcases q2 with ⟨z1, z2⟩ | ⟨z1, z2⟩ | ⟨z1, z2⟩ | ⟨z1, z2⟩
                      · exact z2 c48
                      · exact c64 z2
                      · exact c83 z2
                      · exact c93 z1
                    ·
                      refine g_aload_n (pc' := 97) dX12_isBarred_96 rfl rfl ?_
                      refine g_getS (pc' := 100) (k := 27) (b := (127, 0)) dX12_isBarred_97 rfl rfl ck_13 (by decide) fl_X12_72 rfl hs rfl ?_
                      refine g_iload_n (pc' := 101) dX12_isBarred_100 rfl rfl ?_
                      refine g_ialdN (pc' := 102) (v := _) dX12_isBarred_101 rfl rfl (by decide) (by omega) (rfl) ?_
                      refine g_iload (pc' := 104) dX12_isBarred_102 rfl rfl ?_
                      refine g_icmp_ge (tgt := 109) (pc' := 107) dX12_isBarred_104 rfl (by decide) (fun c104 => ?_) (fun c104 => ?_)
                      ·
                        refine g_iincN (k := 1) (pc' := 112) dX12_isBarred_109 rfl rfl (by decide) rfl ?_
                        try simp only [List.set]
                        refine g_goto (tgt := 2) dX12_isBarred_112 (by decide) ?_
                        refine G.drop 4 ?_
                        simp only [List.set]
                        refine ih (g + 1) (by omega) (by omega) (lt_s hi ?_)
                        rintro ⟨q1, q2⟩
                        rcases q2 with ⟨z1, z2⟩ | ⟨z1, z2⟩ | ⟨z1, z2⟩ | ⟨z1, z2⟩
                        · exact z2 c48
                        · exact c64 z2
                        · exact c83 z2
                        · exact Int32.not_le.mpr z2 c104
                      ·
                        refine g_iconstN (n := 1) (pc' := 108) dX12_isBarred_107 rfl ?_
                        refine g_zret dX12_isBarred_108 rfl (by rfl) (by decide) (by decide) ?_
                        have q : barred (mo h) t f := ⟨g, by omega, c25, Or.inr (Or.inr (Or.inr ⟨c93, Int32.not_le.mp c104⟩))⟩
                        rw [bi_t q] at hQ
                        exact hQ
      ·
        refine g_goto (tgt := 109) dX12_isBarred_28 (by decide) ?_
        refine g_iincN (k := 1) (pc' := 112) dX12_isBarred_109 rfl rfl (by decide) rfl ?_
        try simp only [List.set]
        refine g_goto (tgt := 2) dX12_isBarred_112 (by decide) ?_
        refine G.drop 4 ?_
        simp only [List.set]
        refine ih (g + 1) (by omega) (by omega) (lt_s hi ?_)
        rintro ⟨q1, q2⟩
        exact c25 q1
set_option maxRecDepth 4000 in
theorem cm_isBarred {E : En} (hok : EOK E) {h : Hp} (hs : Shp h.2) (hw : Wf (mo h)) {t f : Nat} (ht : t < nT (mo h)) (hf : f < nF (mo h)) : Fn E m_X12_isBarred 0 [vR MO, vI (nI t), vI (nI f)] h (vI (bi (barred (mo h) t f))) := by
  have hNw : h.1 MO 2 = nI (nW (mo h)) := hw.w.1
  have hNwb := hw.w.2
  have hC : h.1 MO 30 = nI (nC (mo h)) := hw.c.1
  have hCb := hw.c.2
  have hK : h.1 MO 3 = nI (nK (mo h)) := hw.k.1
  have hKb := hw.k.2
  have hT : h.1 MO 4 = nI (nT (mo h)) := hw.t.1
  have hTb := hw.t.2
  have hF : h.1 MO 5 = nI (nF (mo h)) := hw.f.1
  have hFb := hw.f.2
  have hRc : h.1 MO 59 = nI (nR (mo h)) := hw.r.1
  have hRb := hw.r.2
  have hG : h.1 MO 60 = nI (nGf (mo h)) := hw.g.1
  have hGb := hw.g.2
  have hA : h.1 MO 70 = nI (nA (mo h)) := hw.a.1
  have hAb := hw.a.2
  have hTl : h.1 MO 1 = nI (nTl (mo h)) := hw.tl.1
  have hTlb := hw.tl.2
  refine Call.enter hok (by decide) (Nat.le_of_ble_eq_true rfl) ?_
  show G E m_X12_isBarred 0 0 0 _ h 0 [some (vR MO), some (vI (nI t)), some (vI (nI f)), none, none] [] h 0 0
  refine g_iconstN (n := 0) (pc' := 1) dX12_isBarred_0 rfl ?_
  refine g_istore_n (pc' := 2) dX12_isBarred_1 rfl (by decide) rfl ?_
  try simp only [List.set]
  exact lm_isBarred hok hs hw ht hf (Nat.le_refl _) ⟨rfl, rfl⟩ _ 0 (Nat.zero_le _) rfl (fun i q => absurd q (Nat.not_lt_zero i))
