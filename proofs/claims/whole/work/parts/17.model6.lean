theorem Wf_u {m : St} (w : Wf m) {s j : Nat} {x : Int32} (h1 : s ≠ 1) (h2 : s ≠ 115) : Wf (stU m s j x) := by
  have e1 : stU m s j x 1 = m 1 := if_neg (Ne.symm h1)
  have e2 : stU m s j x 115 = m 115 := if_neg (Ne.symm h2)
  unfold Wf nTl nK nT nF nR nGf nA nW nC kd at *
  rw [e1, e2]
  exact w
theorem Wf_n {m : St} (w : Wf m) {s b : Nat} {f : Nat → Int32} (h1 : s ≠ 1) (h2 : s ≠ 115) : ∀ n, Wf (stN m s b f n)
  | 0 => w
  | n + 1 => Wf_u (Wf_n w h1 h2 n) h1 h2
/-- who has a toy of a recall -/
noncomputable def hadN (m : St) (r : Nat) : Int32 := orr (fun t => cif (m 118 t = 1 ∧ isOfm m r t) ((1 : Int32) <<< (m 119 t &&& 31)) 0) (nT m)
set_option maxRecDepth 4000 in
theorem lm_hadNow {E : En} (hok : EOK E) {h h0 : Hp} (hs : Shp h.2) (hw : Wf (mo h)) {r : Nat} (hr : r < 10) {d : Nat} (hd : 2 ≤ d) {Q : Option V → Hp → Prop} (hQ : Q (some (vI (hadN (mo h) r))) h) : ∀ n t : Nat, t ≤ nT (mo h) → nT (mo h) - t = n → G E m_X12_hadNow d 0 0 Q h0 4 [some (vR MO), some (vI (nI r)), some (vI (orr (fun t => cif (mo h 118 t = 1 ∧ isOfm (mo h) r t) ((1 : Int32) <<< (mo h 119 t &&& 31)) 0) t)), some (vI (nI t))] [] h 0 0 := by
  have hNw : h.1 MO 2 = nI (nW (mo h)) := hw.w.1
  have hNwb := hw.w.2
  have hC : h.1 MO 30 = nI (nC (mo h)) := hw.c.1
  have hCb := hw.c.2
  have hK : h.1 MO 3 = nI (nK (mo h)) := hw.k.1
  have hKb := hw.k.2
  have hT : h.1 MO 4 = nI (nT (mo h)) := hw.t.1
  have hTb := hw.t.2
  have hF : h.1 MO 5 = nI (nF (mo h)) := hw.f.1
  have hFb := hw.f.2
  have hRc : h.1 MO 59 = nI (nR (mo h)) := hw.r.1
  have hRb := hw.r.2
  have hG : h.1 MO 60 = nI (nGf (mo h)) := hw.g.1
  have hGb := hw.g.2
  have hA : h.1 MO 70 = nI (nA (mo h)) := hw.a.1
  have hAb := hw.a.2
  have hTl : h.1 MO 1 = nI (nTl (mo h)) := hw.tl.1
  have hTlb := hw.tl.2
  intro n
  induction n with
  | zero =>
    intro t h1 h2
    refine g_iload_n (pc' := 5) dX12_hadNow_4 rfl rfl ?_
    refine g_aload_n (pc' := 6) dX12_hadNow_5 rfl rfl ?_
    refine g_getIv (v := nI (nT (mo h))) (pc' := 9) (k := 4) dX12_hadNow_6 rfl rfl ck_13 (by decide) fl_X12_211 rfl (hT) ?_
    refine g_icmp_geN (tgt := 52) (pc' := 12) dX12_hadNow_9 rfl (by decide) (by omega) (by omega) (fun c9 => ?_) (fun c9 => ?_)
    ·
      refine g_iload_n (pc' := 53) dX12_hadNow_52 rfl rfl ?_
      refine g_iret dX12_hadNow_53 rfl (by decide) (by decide) ?_
      have e : t = nT (mo h) := by omega
      subst e
      exact hQ
    · exact absurd c9 (by omega)
  | succ n ih =>
    intro t h1 h2
    refine g_iload_n (pc' := 5) dX12_hadNow_4 rfl rfl ?_
    refine g_aload_n (pc' := 6) dX12_hadNow_5 rfl rfl ?_
    refine g_getIv (v := nI (nT (mo h))) (pc' := 9) (k := 4) dX12_hadNow_6 rfl rfl ck_13 (by decide) fl_X12_211 rfl (hT) ?_
    refine g_icmp_geN (tgt := 52) (pc' := 12) dX12_hadNow_9 rfl (by decide) (by omega) (by omega) (fun c9 => ?_) (fun c9 => ?_)
    · exact absurd c9 (by omega)
    ·
      refine g_iload_n (pc' := 13) dX12_hadNow_12 rfl rfl ?_
      refine g_aload_n (pc' := 14) dX12_hadNow_13 rfl rfl ?_
      refine g_getS (pc' := 17) (k := 18) (b := (118, 0)) dX12_hadNow_14 rfl rfl ck_13 (by decide) fl_X12_44 rfl hs rfl ?_
      refine g_iload_n (pc' := 18) dX12_hadNow_17 rfl rfl ?_
      refine g_ialdN (pc' := 19) (v := _) dX12_hadNow_18 rfl rfl (by decide) (by omega) (rfl) ?_
      refine g_iconstN (n := 1) (pc' := 20) dX12_hadNow_19 rfl ?_
      refine g_icmp_ne (tgt := 43) (pc' := 23) dX12_hadNow_20 rfl (by decide) (fun c20 => ?_) (fun c20 => ?_)
      ·
        refine g_iconst (v := 0) (pc' := 44) dX12_hadNow_43 rfl (by decide) ?_
        refine g_ior (pc' := 45) dX12_hadNow_44 rfl ?_
        refine g_istore_n (pc' := 46) dX12_hadNow_45 rfl (by decide) rfl ?_
        try simp only [List.set]
        refine g_iincN (k := 1) (pc' := 49) dX12_hadNow_46 rfl rfl (by decide) rfl ?_
        try simp only [List.set]
        refine g_goto (tgt := 4) dX12_hadNow_49 (by decide) ?_
        have q := ih (t + 1) (by omega) (by omega)
        rw [orr_s] at q
        have e : cif (mo h 118 t = 1 ∧ isOfm (mo h) r t) ((1 : Int32) <<< (mo h 119 t &&& 31)) 0 = (0 : Int32) := cif_f (fun z => c20 z.1)
        rw [e] at q
        exact q
      ·
        refine g_aload_n (pc' := 24) dX12_hadNow_23 rfl rfl ?_
        refine g_iload_n (pc' := 25) dX12_hadNow_24 rfl rfl ?_
        refine g_iload_n (pc' := 26) dX12_hadNow_25 rfl rfl ?_
        refine g_invV (pc' := 29) (cm_isOf hok hs hw (r := r) (t := t) (by omega) (by omega)) dX12_hadNow_26 rfl rfl ck_13 rfl ml_X12_422 im_X12_isOf sl_X12_isOf in_X12 co_X12_isOf pd_X12_isOf rfl (by omega) (by decide) ⟨by decide, by decide⟩ (Nat.le_of_ble_eq_true rfl) ?_
        rintro _ _ ⟨rfl, rfl⟩ -
        refine g_ifB_eq (tgt := 43) (pc' := 32) dX12_hadNow_29 rfl (by decide) (fun c29 => ?_) (fun c29 => ?_)
        ·
          refine g_iconst (v := 0) (pc' := 44) dX12_hadNow_43 rfl (by decide) ?_
          refine g_ior (pc' := 45) dX12_hadNow_44 rfl ?_
          refine g_istore_n (pc' := 46) dX12_hadNow_45 rfl (by decide) rfl ?_
          try simp only [List.set]
          refine g_iincN (k := 1) (pc' := 49) dX12_hadNow_46 rfl rfl (by decide) rfl ?_
          try simp only [List.set]
          refine g_goto (tgt := 4) dX12_hadNow_49 (by decide) ?_
          have q := ih (t + 1) (by omega) (by omega)
          rw [orr_s] at q
          have e : cif (mo h 118 t = 1 ∧ isOfm (mo h) r t) ((1 : Int32) <<< (mo h 119 t &&& 31)) 0 = (0 : Int32) := cif_f (fun z => c29 z.2)
          rw [e] at q
          exact q
        ·
          refine g_iconst (v := 1) (pc' := 33) dX12_hadNow_32 rfl (by decide) ?_
          refine g_aload_n (pc' := 34) dX12_hadNow_33 rfl rfl ?_
          refine g_getS (pc' := 37) (k := 19) (b := (119, 0)) dX12_hadNow_34 rfl rfl ck_13 (by decide) fl_X12_47 rfl hs rfl ?_
          refine g_iload_n (pc' := 38) dX12_hadNow_37 rfl rfl ?_
          refine g_ialdN (pc' := 39) (v := _) dX12_hadNow_38 rfl rfl (by decide) (by omega) (rfl) ?_
          refine g_ishl (pc' := 40) dX12_hadNow_39 rfl ?_
          refine g_goto (tgt := 44) dX12_hadNow_40 (by decide) ?_
          refine g_ior (pc' := 45) dX12_hadNow_44 rfl ?_
          refine g_istore_n (pc' := 46) dX12_hadNow_45 rfl (by decide) rfl ?_
          try simp only [List.set]
          refine g_iincN (k := 1) (pc' := 49) dX12_hadNow_46 rfl rfl (by decide) rfl ?_
          try simp only [List.set]
          refine g_goto (tgt := 4) dX12_hadNow_49 (by decide) ?_
          have q := ih (t + 1) (by omega) (by omega)
          rw [orr_s] at q
          have e : cif (mo h 118 t = 1 ∧ isOfm (mo h) r t) ((1 : Int32) <<< (mo h 119 t &&& 31)) 0 = (1 : Int32) <<< (mo h 119 t &&& 31) := cif_t ⟨c20, c29⟩
          rw [e] at q
          exact q
set_option maxRecDepth 4000 in
theorem cm_hadNow {E : En} (hok : EOK E) {h : Hp} (hs : Shp h.2) (hw : Wf (mo h)) {r : Nat} (hr : r < 10) : Fn E m_X12_hadNow 2 [vR MO, vI (nI r)] h (vI (hadN (mo h) r)) := by
  have hNw : h.1 MO 2 = nI (nW (mo h)) := hw.w.1
  have hNwb := hw.w.2
  have hC : h.1 MO 30 = nI (nC (mo h)) := hw.c.1
  have hCb := hw.c.2
  have hK : h.1 MO 3 = nI (nK (mo h)) := hw.k.1
  have hKb := hw.k.2
  have hT : h.1 MO 4 = nI (nT (mo h)) := hw.t.1
  have hTb := hw.t.2
  have hF : h.1 MO 5 = nI (nF (mo h)) := hw.f.1
  have hFb := hw.f.2
  have hRc : h.1 MO 59 = nI (nR (mo h)) := hw.r.1
  have hRb := hw.r.2
  have hG : h.1 MO 60 = nI (nGf (mo h)) := hw.g.1
  have hGb := hw.g.2
  have hA : h.1 MO 70 = nI (nA (mo h)) := hw.a.1
  have hAb := hw.a.2
  have hTl : h.1 MO 1 = nI (nTl (mo h)) := hw.tl.1
  have hTlb := hw.tl.2
  refine Call.enter hok (by decide) (Nat.le_of_ble_eq_true rfl) ?_
  show G E m_X12_hadNow 2 0 0 _ h 0 [some (vR MO), some (vI (nI r)), none, none] [] h 0 0
  refine g_iconst (v := 0) (pc' := 1) dX12_hadNow_0 rfl (by decide) ?_
  refine g_istore_n (pc' := 2) dX12_hadNow_1 rfl (by decide) rfl ?_
  try simp only [List.set]
  refine g_iconstN (n := 0) (pc' := 3) dX12_hadNow_2 rfl ?_
  refine g_istore_n (pc' := 4) dX12_hadNow_3 rfl (by decide) rfl ?_
  try simp only [List.set]
  exact lm_hadNow hok hs hw hr (Nat.le_refl _) ⟨rfl, rfl⟩ _ 0 (Nat.zero_le _) rfl
noncomputable def st4 (m : St) (a p z : Int32) : St := stU (stU (stU (stU (m) 161 (nR m) (a)) 162 (nR m) (p)) 163 (nR m) (z)) 164 (nR m) (m 1 2)
noncomputable def sRecall (m : St) (a : Int32) (p : Int32) (z : Int32) : Int32 × St := cif ((¬ nR m = 10) ∧ (0 ≤ a ∧ a ≤ 5) ∧ (0 ≤ p ∧ p ≤ 99) ∧ (p ≤ z ∧ z ≤ 99)) (nI (nR m), stU (stU (st4 m a p z) 165 (nR m) (hadN (st4 m a p z) (nR m))) 1 59 (nI (nR m + 1))) (-1, m)
set_option maxRecDepth 4000 in
theorem cm_recall {E : En} (hok : EOK E) {h : Hp} (hs : Shp h.2) (hw : Wf (mo h)) (a : Int32) (p : Int32) (z : Int32) : Call E m_X12_recall 3 0 0 [vR MO, vI a, vI p, vI z] h (fun r h' => r = some (vI (sRecall (mo h) a p z).1) ∧ mo h' = (sRecall (mo h) a p z).2 ∧ Mk h h') := by
  have hNw : h.1 MO 2 = nI (nW (mo h)) := hw.w.1
  have hNwb := hw.w.2
  have hC : h.1 MO 30 = nI (nC (mo h)) := hw.c.1
  have hCb := hw.c.2
  have hK : h.1 MO 3 = nI (nK (mo h)) := hw.k.1
  have hKb := hw.k.2
  have hT : h.1 MO 4 = nI (nT (mo h)) := hw.t.1
  have hTb := hw.t.2
  have hF : h.1 MO 5 = nI (nF (mo h)) := hw.f.1
  have hFb := hw.f.2
  have hRc : h.1 MO 59 = nI (nR (mo h)) := hw.r.1
  have hRb := hw.r.2
  have hG : h.1 MO 60 = nI (nGf (mo h)) := hw.g.1
  have hGb := hw.g.2
  have hA : h.1 MO 70 = nI (nA (mo h)) := hw.a.1
  have hAb := hw.a.2
  have hTl : h.1 MO 1 = nI (nTl (mo h)) := hw.tl.1
  have hTlb := hw.tl.2
  refine Call.enter hok (by decide) (Nat.le_of_ble_eq_true rfl) ?_
  show G E m_X12_recall 3 0 0 _ h 0 [some (vR MO), some (vI a), some (vI p), some (vI z)] [] h 0 0
  refine g_aload_n (pc' := 1) dX12_recall_0 rfl rfl ?_
  refine g_getIv (v := nI (nR (mo h))) (pc' := 4) (k := 59) dX12_recall_1 rfl rfl ck_13 (by decide) fl_X12_419 rfl (hRc) ?_
  refine g_bipushN (n := 10) (pc' := 6) dX12_recall_4 rfl (by decide) ?_
  refine g_icmp_eqN (tgt := 46) (pc' := 9) dX12_recall_6 rfl (by decide) (by omega) (by omega) (fun c6 => ?_) (fun c6 => ?_)
  ·
    refine g_iconst (v := -1) (pc' := 47) dX12_recall_46 rfl (by decide) ?_
    refine g_iret dX12_recall_47 rfl (by decide) (by decide) ?_
    have e : sRecall (mo h) a p z = (-1, mo h) := by exact cif_f (by rintro ⟨z0, z1, z2, z3⟩; contradiction)
    rw [e]
    exact ⟨rfl, rfl, Mk.rf h⟩
  ·
    refine g_iload_n (pc' := 10) dX12_recall_9 rfl rfl ?_
    refine g_i2l (pc' := 11) dX12_recall_10 rfl ?_
    refine g_lconst (v := 0) (pc' := 12) dX12_recall_11 rfl rfl ?_
    refine g_ldc2 (pc' := 15) dX12_recall_12 rfl kc_X12_217 ?_
    refine g_invS (pc' := 18) (c_liesI hok _ (0) (5) rfl (by decide) (by decide)) dX12_recall_15 rfl ml_X12_203 st_X12_lies in_X12 co_X12_lies pd_X12_lies rfl (by omega) (by decide) ⟨by decide, by decide⟩ (Nat.le_of_ble_eq_true rfl) ?_
    rintro _ _ ⟨rfl, rfl⟩ -
    refine g_ifB_eq (tgt := 46) (pc' := 21) dX12_recall_18 rfl (by decide) (fun c18 => ?_) (fun c18 => ?_)
    ·
      refine g_iconst (v := -1) (pc' := 47) dX12_recall_46 rfl (by decide) ?_
      refine g_iret dX12_recall_47 rfl (by decide) (by decide) ?_
      have e : sRecall (mo h) a p z = (-1, mo h) := by exact cif_f (by rintro ⟨z0, z1, z2, z3⟩; contradiction)
      rw [e]
      exact ⟨rfl, rfl, Mk.rf h⟩
    ·
      refine g_iload_n (pc' := 22) dX12_recall_21 rfl rfl ?_
      refine g_i2l (pc' := 23) dX12_recall_22 rfl ?_
      refine g_lconst (v := 0) (pc' := 24) dX12_recall_23 rfl rfl ?_
      refine g_ldc2 (pc' := 27) dX12_recall_24 rfl kc_X12_241 ?_
      refine g_invS (pc' := 30) (c_liesI hok _ (0) (99) rfl (by decide) (by decide)) dX12_recall_27 rfl ml_X12_203 st_X12_lies in_X12 co_X12_lies pd_X12_lies rfl (by omega) (by decide) ⟨by decide, by decide⟩ (Nat.le_of_ble_eq_true rfl) ?_
      rintro _ _ ⟨rfl, rfl⟩ -
      refine g_ifB_eq (tgt := 46) (pc' := 33) dX12_recall_30 rfl (by decide) (fun c30 => ?_) (fun c30 => ?_)
      ·
        refine g_iconst (v := -1) (pc' := 47) dX12_recall_46 rfl (by decide) ?_
        refine g_iret dX12_recall_47 rfl (by decide) (by decide) ?_
        have e : sRecall (mo h) a p z = (-1, mo h) := by exact cif_f (by rintro ⟨z0, z1, z2, z3⟩; contradiction)
        rw [e]
        exact ⟨rfl, rfl, Mk.rf h⟩
      ·
        refine g_iload_n (pc' := 34) dX12_recall_33 rfl rfl ?_
        refine g_i2l (pc' := 35) dX12_recall_34 rfl ?_
        refine g_iload_n (pc' := 36) dX12_recall_35 rfl rfl ?_
        refine g_i2l (pc' := 37) dX12_recall_36 rfl ?_
        refine g_ldc2 (pc' := 40) dX12_recall_37 rfl kc_X12_241 ?_
        refine g_invS (pc' := 43) (c_liesI hok _ _ (99) rfl rfl (by decide)) dX12_recall_40 rfl ml_X12_203 st_X12_lies in_X12 co_X12_lies pd_X12_lies rfl (by omega) (by decide) ⟨by decide, by decide⟩ (Nat.le_of_ble_eq_true rfl) ?_
        rintro _ _ ⟨rfl, rfl⟩ -
        refine g_ifB_ne (tgt := 48) (pc' := 46) dX12_recall_43 rfl (by decide) (fun c43 => ?_) (fun c43 => ?_)
        ·
          have hm4 : mo (wI (wI (wI (wI h (161, 0) (nR (mo h)) a) (162, 0) (nR (mo h)) p) (163, 0) (nR (mo h)) z) (164, 0) (nR (mo h)) (h.1 MO 2)) = st4 (mo h) a p z := by rw [mo_wI (s := 164) rfl, mo_wI (s := 163) rfl, mo_wI (s := 162) rfl, mo_wI (s := 161) rfl] <;> rfl
          have hc10 : nR (mo h) < 10 := by omega
          refine g_aload_n (pc' := 49) dX12_recall_48 rfl rfl ?_
          refine g_getS (pc' := 52) (k := 61) (b := (161, 0)) dX12_recall_49 rfl rfl ck_13 (by decide) fl_X12_126 rfl hs rfl ?_
          refine g_aload_n (pc' := 53) dX12_recall_52 rfl rfl ?_
          refine g_getIv (v := nI (nR (mo h))) (pc' := 56) (k := 59) dX12_recall_53 rfl rfl ck_13 (by decide) fl_X12_419 rfl (hRc) ?_
          refine g_iload_n (pc' := 57) dX12_recall_56 rfl rfl ?_
          refine g_iastN (pc' := 58) dX12_recall_57 rfl rfl (by decide) (by omega) ?_
          refine g_aload_n (pc' := 59) dX12_recall_58 rfl rfl ?_
          refine g_getS (pc' := 62) (k := 62) (b := (162, 0)) dX12_recall_59 rfl rfl ck_13 (by decide) fl_X12_129 rfl hs rfl ?_
          refine g_aload_n (pc' := 63) dX12_recall_62 rfl rfl ?_
          refine g_getIv (v := nI (nR (mo h))) (pc' := 66) (k := 59) dX12_recall_63 rfl rfl ck_13 (by decide) fl_X12_419 rfl (hRc) ?_
          refine g_iload_n (pc' := 67) dX12_recall_66 rfl rfl ?_
          refine g_iastN (pc' := 68) dX12_recall_67 rfl rfl (by decide) (by omega) ?_
          refine g_aload_n (pc' := 69) dX12_recall_68 rfl rfl ?_
          refine g_getS (pc' := 72) (k := 63) (b := (163, 0)) dX12_recall_69 rfl rfl ck_13 (by decide) fl_X12_132 rfl hs rfl ?_
          refine g_aload_n (pc' := 73) dX12_recall_72 rfl rfl ?_
          refine g_getIv (v := nI (nR (mo h))) (pc' := 76) (k := 59) dX12_recall_73 rfl rfl ck_13 (by decide) fl_X12_419 rfl (hRc) ?_
          refine g_iload_n (pc' := 77) dX12_recall_76 rfl rfl ?_
          refine g_iastN (pc' := 78) dX12_recall_77 rfl rfl (by decide) (by omega) ?_
          refine g_aload_n (pc' := 79) dX12_recall_78 rfl rfl ?_
          refine g_getS (pc' := 82) (k := 64) (b := (164, 0)) dX12_recall_79 rfl rfl ck_13 (by decide) fl_X12_135 rfl hs rfl ?_
          refine g_aload_n (pc' := 83) dX12_recall_82 rfl rfl ?_
          refine g_getIv (v := nI (nR (mo h))) (pc' := 86) (k := 59) dX12_recall_83 rfl rfl ck_13 (by decide) fl_X12_419 rfl (hRc) ?_
          refine g_aload_n (pc' := 87) dX12_recall_86 rfl rfl ?_
          refine g_getI (pc' := 90) (k := 2) dX12_recall_87 rfl rfl ck_13 (by decide) fl_X12_219 rfl ?_
          refine g_iastN (pc' := 91) dX12_recall_90 rfl rfl (by decide) (by omega) ?_
          refine g_aload_n (pc' := 92) dX12_recall_91 rfl rfl ?_
          refine g_getS (pc' := 95) (k := 65) (b := (165, 0)) dX12_recall_92 rfl rfl ck_13 (by decide) fl_X12_138 rfl hs rfl ?_
          refine g_aload_n (pc' := 96) dX12_recall_95 rfl rfl ?_
          refine g_getIv (v := nI (nR (mo h))) (pc' := 99) (k := 59) dX12_recall_96 rfl rfl ck_13 (by decide) fl_X12_419 rfl (hRc) ?_
          refine g_aload_n (pc' := 100) dX12_recall_99 rfl rfl ?_
          refine g_aload_n (pc' := 101) dX12_recall_100 rfl rfl ?_
          refine g_getIv (v := nI (nR (mo h))) (pc' := 104) (k := 59) dX12_recall_101 rfl rfl ck_13 (by decide) fl_X12_419 rfl (hRc) ?_
          refine g_invV (pc' := 107) (cm_hadNow (h := wI (wI (wI (wI h (161, 0) (nR (mo h)) a) (162, 0) (nR (mo h)) p) (163, 0) (nR (mo h)) z) (164, 0) (nR (mo h)) (h.1 MO 2)) hok hs (by rw [hm4]; exact Wf_u (Wf_u (Wf_u (Wf_u hw (by decide) (by decide)) (by decide) (by decide)) (by decide) (by decide)) (by decide) (by decide)) (r := nR (mo h)) (by omega)) dX12_recall_104 rfl rfl ck_13 rfl ml_X12_429 im_X12_hadNow sl_X12_hadNow in_X12 co_X12_hadNow pd_X12_hadNow rfl (by omega) (by decide) ⟨by decide, by decide⟩ (Nat.le_of_ble_eq_true rfl) ?_
          rintro _ _ ⟨rfl, rfl⟩ -
          simp only [hm4]
          refine g_iastN (pc' := 108) dX12_recall_107 rfl rfl (by decide) (by omega) ?_
          refine g_aload_n (pc' := 109) dX12_recall_108 rfl rfl ?_
          refine g_dup (pc' := 110) dX12_recall_109 rfl rfl ?_
          refine g_getIv (v := nI (nR (mo h))) (pc' := 113) (k := 59) dX12_recall_110 rfl rfl ck_13 (by decide) fl_X12_419 rfl (hRc) ?_
          refine g_iconstN (n := 1) (pc' := 114) dX12_recall_113 rfl ?_
          refine g_iaddN (pc' := 115) dX12_recall_114 rfl ?_
          refine g_putI (pc' := 118) (k := 59) dX12_recall_115 rfl rfl ck_13 (by decide) fl_X12_419 rfl rfl rfl rfl ?_
          refine g_aload_n (pc' := 119) dX12_recall_118 rfl rfl ?_
          refine g_getIv (v := nI ((nR (mo h) + 1))) (pc' := 122) (k := 59) dX12_recall_119 rfl rfl ck_13 (by decide) fl_X12_419 rfl (wI_same _ _ _ _) ?_
          refine g_iconstN (n := 1) (pc' := 123) dX12_recall_122 rfl ?_
          refine g_isubN (pc' := 124) dX12_recall_123 rfl (by omega) ?_
          refine g_iret dX12_recall_124 rfl (by decide) (by decide) ?_
          have e : sRecall (mo h) a p z = (nI (nR (mo h)), stU (stU (st4 (mo h) a p z) 165 (nR (mo h)) (hadN (st4 (mo h) a p z) (nR (mo h)))) 1 59 (nI (nR (mo h) + 1))) := by exact cif_t ⟨by assumption, by assumption, by assumption, by assumption⟩
          rw [e]
          exact ⟨rfl, by rw [mo_wF (j := 59) rfl, mo_wI (s := 165) rfl, hm4], ((((((Mk.rf h).w (Or.inr (by decide))).w (Or.inr (by decide))).w (Or.inr (by decide))).w (Or.inr (by decide))).w (Or.inr (by decide))).w (Or.inl rfl)⟩
        ·
          refine g_iconst (v := -1) (pc' := 47) dX12_recall_46 rfl (by decide) ?_
          refine g_iret dX12_recall_47 rfl (by decide) (by decide) ?_
          have e : sRecall (mo h) a p z = (-1, mo h) := by exact cif_f (by rintro ⟨z0, z1, z2, z3⟩; contradiction)
          rw [e]
          exact ⟨rfl, rfl, Mk.rf h⟩
