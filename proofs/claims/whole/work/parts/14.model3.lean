set_option maxRecDepth 4000 in
theorem cm_hasToys {E : En} (hok : EOK E) {h : Hp} (hs : Shp h.2) (hw : Wf (mo h)) (f : Int32) : Fn E m_X12_hasToys 0 [vR MO, vI (f)] h (vI (nI (hsT (mo h) f))) := by
  have hNw : h.1 MO 2 = nI (nW (mo h)) := hw.w.1
  have hNwb := hw.w.2
  have hC : h.1 MO 30 = nI (nC (mo h)) := hw.c.1
  have hCb := hw.c.2
  have hK : h.1 MO 3 = nI (nK (mo h)) := hw.k.1
  have hKb := hw.k.2
  have hT : h.1 MO 4 = nI (nT (mo h)) := hw.t.1
  have hTb := hw.t.2
  have hF : h.1 MO 5 = nI (nF (mo h)) := hw.f.1
  have hFb := hw.f.2
  have hRc : h.1 MO 59 = nI (nR (mo h)) := hw.r.1
  have hRb := hw.r.2
  have hG : h.1 MO 60 = nI (nGf (mo h)) := hw.g.1
  have hGb := hw.g.2
  have hA : h.1 MO 70 = nI (nA (mo h)) := hw.a.1
  have hAb := hw.a.2
  have hTl : h.1 MO 1 = nI (nTl (mo h)) := hw.tl.1
  have hTlb := hw.tl.2
  refine Call.enter hok (by decide) (Nat.le_of_ble_eq_true rfl) ?_
  show G E m_X12_hasToys 0 0 0 _ h 0 [some (vR MO), some (vI f), none, none] [] h 0 0
  refine g_iconstN (n := 0) (pc' := 1) dX12_hasToys_0 rfl ?_
  refine g_istore_n (pc' := 2) dX12_hasToys_1 rfl (by decide) rfl ?_
  try simp only [List.set]
  refine g_iconstN (n := 0) (pc' := 3) dX12_hasToys_2 rfl ?_
  refine g_istore_n (pc' := 4) dX12_hasToys_3 rfl (by decide) rfl ?_
  try simp only [List.set]
  exact lm_hasToys hok hs hw f (Nat.le_refl _) ⟨rfl, rfl⟩ _ 0 (Nat.zero_le _) rfl
set_option maxRecDepth 4000 in
theorem lm_waitingFor {E : En} (hok : EOK E) {h h0 : Hp} (hs : Shp h.2) (hw : Wf (mo h)) {k : Nat} (hk : k < 8) {d : Nat} (hd : 0 ≤ d) {Q : Option V → Hp → Prop} (hQ : Q (some (vI (nI (wfr (mo h) k)))) h) : ∀ n f : Nat, f ≤ nF (mo h) → nF (mo h) - f = n → G E m_X12_waitingFor d 0 0 Q h0 4 [some (vR MO), some (vI (nI k)), some (vI (nI (cnt (fun f => ¬ mo h 186 (8 * f + k) = -1) f))), some (vI (nI f))] [] h 0 0 := by
  have hNw : h.1 MO 2 = nI (nW (mo h)) := hw.w.1
  have hNwb := hw.w.2
  have hC : h.1 MO 30 = nI (nC (mo h)) := hw.c.1
  have hCb := hw.c.2
  have hK : h.1 MO 3 = nI (nK (mo h)) := hw.k.1
  have hKb := hw.k.2
  have hT : h.1 MO 4 = nI (nT (mo h)) := hw.t.1
  have hTb := hw.t.2
  have hF : h.1 MO 5 = nI (nF (mo h)) := hw.f.1
  have hFb := hw.f.2
  have hRc : h.1 MO 59 = nI (nR (mo h)) := hw.r.1
  have hRb := hw.r.2
  have hG : h.1 MO 60 = nI (nGf (mo h)) := hw.g.1
  have hGb := hw.g.2
  have hA : h.1 MO 70 = nI (nA (mo h)) := hw.a.1
  have hAb := hw.a.2
  have hTl : h.1 MO 1 = nI (nTl (mo h)) := hw.tl.1
  have hTlb := hw.tl.2
  intro n
  induction n with
  | zero =>
    intro f h1 h2
    refine g_iload_n (pc' := 5) dX12_waitingFor_4 rfl rfl ?_
    refine g_aload_n (pc' := 6) dX12_waitingFor_5 rfl rfl ?_
    refine g_getIv (v := nI (nF (mo h))) (pc' := 9) (k := 5) dX12_waitingFor_6 rfl rfl ck_13 (by decide) fl_X12_214 rfl (hF) ?_
    refine g_icmp_geN (tgt := 41) (pc' := 12) dX12_waitingFor_9 rfl (by decide) (by omega) (by omega) (fun c9 => ?_) (fun c9 => ?_)
    ·
      refine g_iload_n (pc' := 42) dX12_waitingFor_41 rfl rfl ?_
      refine g_iret dX12_waitingFor_42 rfl (by decide) (by decide) ?_
      have e : f = nF (mo h) := by omega
      subst e
      exact hQ
    · exact absurd c9 (by omega)
  | succ n ih =>
    intro f h1 h2
    refine g_iload_n (pc' := 5) dX12_waitingFor_4 rfl rfl ?_
    refine g_aload_n (pc' := 6) dX12_waitingFor_5 rfl rfl ?_
    refine g_getIv (v := nI (nF (mo h))) (pc' := 9) (k := 5) dX12_waitingFor_6 rfl rfl ck_13 (by decide) fl_X12_214 rfl (hF) ?_
    refine g_icmp_geN (tgt := 41) (pc' := 12) dX12_waitingFor_9 rfl (by decide) (by omega) (by omega) (fun c9 => ?_) (fun c9 => ?_)
    · exact absurd c9 (by omega)
    ·
      refine g_iload_n (pc' := 13) dX12_waitingFor_12 rfl rfl ?_
      refine g_aload_n (pc' := 14) dX12_waitingFor_13 rfl rfl ?_
      refine g_getS (pc' := 17) (k := 86) (b := (186, 0)) dX12_waitingFor_14 rfl rfl ck_13 (by decide) fl_X12_183 rfl hs rfl ?_
      refine g_bipushN (n := 8) (pc' := 19) dX12_waitingFor_17 rfl (by decide) ?_
      refine g_iload_n (pc' := 20) dX12_waitingFor_19 rfl rfl ?_
      refine g_imulN (pc' := 21) dX12_waitingFor_20 rfl ?_
      refine g_iload_n (pc' := 22) dX12_waitingFor_21 rfl rfl ?_
      refine g_iaddN (pc' := 23) dX12_waitingFor_22 rfl ?_
      refine g_ialdN (pc' := 24) (v := _) dX12_waitingFor_23 rfl rfl (by decide) (by omega) (rfl) ?_
      refine g_iconst (v := -1) (pc' := 25) dX12_waitingFor_24 rfl (by decide) ?_
      refine g_icmp_eq (tgt := 32) (pc' := 28) dX12_waitingFor_25 rfl (by decide) (fun c25 => ?_) (fun c25 => ?_)
      ·
        refine g_iconstN (n := 0) (pc' := 33) dX12_waitingFor_32 rfl ?_
        refine g_iaddN (pc' := 34) dX12_waitingFor_33 rfl ?_
        refine g_istore_n (pc' := 35) dX12_waitingFor_34 rfl (by decide) rfl ?_
        try simp only [List.set]
        refine g_iincN (k := 1) (pc' := 38) dX12_waitingFor_35 rfl rfl (by decide) rfl ?_
        try simp only [List.set]
        refine g_goto (tgt := 4) dX12_waitingFor_38 (by decide) ?_
        have q := ih (f + 1) (by omega) (by omega)
        rw [cnt_f (fun z => z c25)] at q
        exact q
      ·
        refine g_iconstN (n := 1) (pc' := 29) dX12_waitingFor_28 rfl ?_
        refine g_goto (tgt := 33) dX12_waitingFor_29 (by decide) ?_
        refine g_iaddN (pc' := 34) dX12_waitingFor_33 rfl ?_
        refine g_istore_n (pc' := 35) dX12_waitingFor_34 rfl (by decide) rfl ?_
        try simp only [List.set]
        refine g_iincN (k := 1) (pc' := 38) dX12_waitingFor_35 rfl rfl (by decide) rfl ?_
        try simp only [List.set]
        refine g_goto (tgt := 4) dX12_waitingFor_38 (by decide) ?_
        have q := ih (f + 1) (by omega) (by omega)
        rw [cnt_t (p := (fun f => ¬ mo h 186 (8 * f + k) = -1)) c25] at q
        exact q
set_option maxRecDepth 4000 in
theorem cm_waitingFor {E : En} (hok : EOK E) {h : Hp} (hs : Shp h.2) (hw : Wf (mo h)) {k : Nat} (hk : k < 8) : Fn E m_X12_waitingFor 0 [vR MO, vI (nI k)] h (vI (nI (wfr (mo h) k))) := by
  have hNw : h.1 MO 2 = nI (nW (mo h)) := hw.w.1
  have hNwb := hw.w.2
  have hC : h.1 MO 30 = nI (nC (mo h)) := hw.c.1
  have hCb := hw.c.2
  have hK : h.1 MO 3 = nI (nK (mo h)) := hw.k.1
  have hKb := hw.k.2
  have hT : h.1 MO 4 = nI (nT (mo h)) := hw.t.1
  have hTb := hw.t.2
  have hF : h.1 MO 5 = nI (nF (mo h)) := hw.f.1
  have hFb := hw.f.2
  have hRc : h.1 MO 59 = nI (nR (mo h)) := hw.r.1
  have hRb := hw.r.2
  have hG : h.1 MO 60 = nI (nGf (mo h)) := hw.g.1
  have hGb := hw.g.2
  have hA : h.1 MO 70 = nI (nA (mo h)) := hw.a.1
  have hAb := hw.a.2
  have hTl : h.1 MO 1 = nI (nTl (mo h)) := hw.tl.1
  have hTlb := hw.tl.2
  refine Call.enter hok (by decide) (Nat.le_of_ble_eq_true rfl) ?_
  show G E m_X12_waitingFor 0 0 0 _ h 0 [some (vR MO), some (vI (nI k)), none, none] [] h 0 0
  refine g_iconstN (n := 0) (pc' := 1) dX12_waitingFor_0 rfl ?_
  refine g_istore_n (pc' := 2) dX12_waitingFor_1 rfl (by decide) rfl ?_
  try simp only [List.set]
  refine g_iconstN (n := 0) (pc' := 3) dX12_waitingFor_2 rfl ?_
  refine g_istore_n (pc' := 4) dX12_waitingFor_3 rfl (by decide) rfl ?_
  try simp only [List.set]
  exact lm_waitingFor hok hs hw hk (Nat.le_refl _) ⟨rfl, rfl⟩ _ 0 (Nat.zero_le _) rfl
set_option maxRecDepth 4000 in
theorem lm_lackingOf {E : En} (hok : EOK E) {h h0 : Hp} (hs : Shp h.2) (hw : Wf (mo h)) {t : Nat} (ht : t < nT (mo h)) {d : Nat} (hd : 0 ≤ d) {Q : Option V → Hp → Prop} (hQ : Q (some (vI (lck (mo h) t))) h) : ∀ n s : Nat, s ≤ 6 → 6 - s = n → G E m_X12_lackingOf d 0 0 Q h0 4 [some (vR MO), some (vI (nI t)), some (vI (sm (fun s => mo h 113 (6 * kd (mo h) t + s) - mo h 125 (6 * t + s)) s)), some (vI (nI s))] [] h 0 0 := by
  have hNw : h.1 MO 2 = nI (nW (mo h)) := hw.w.1
  have hNwb := hw.w.2
  have hC : h.1 MO 30 = nI (nC (mo h)) := hw.c.1
  have hCb := hw.c.2
  have hK : h.1 MO 3 = nI (nK (mo h)) := hw.k.1
  have hKb := hw.k.2
  have hT : h.1 MO 4 = nI (nT (mo h)) := hw.t.1
  have hTb := hw.t.2
  have hF : h.1 MO 5 = nI (nF (mo h)) := hw.f.1
  have hFb := hw.f.2
  have hRc : h.1 MO 59 = nI (nR (mo h)) := hw.r.1
  have hRb := hw.r.2
  have hG : h.1 MO 60 = nI (nGf (mo h)) := hw.g.1
  have hGb := hw.g.2
  have hA : h.1 MO 70 = nI (nA (mo h)) := hw.a.1
  have hAb := hw.a.2
  have hTl : h.1 MO 1 = nI (nTl (mo h)) := hw.tl.1
  have hTlb := hw.tl.2
  have hkd := (hw.kd ht).2
  intro n
  induction n with
  | zero =>
    intro s h1 h2
    refine g_iload_n (pc' := 5) dX12_lackingOf_4 rfl rfl ?_
    refine g_bipushN (n := 6) (pc' := 7) dX12_lackingOf_5 rfl (by decide) ?_
    refine g_icmp_geN (tgt := 47) (pc' := 10) dX12_lackingOf_7 rfl (by decide) (by omega) (by omega) (fun c7 => ?_) (fun c7 => ?_)
    ·
      refine g_iload_n (pc' := 48) dX12_lackingOf_47 rfl rfl ?_
      refine g_iret dX12_lackingOf_48 rfl (by decide) (by decide) ?_
      have e : s = 6 := by omega
      subst e
      exact hQ
    · exact absurd c7 (by omega)
  | succ n ih =>
    intro s h1 h2
    refine g_iload_n (pc' := 5) dX12_lackingOf_4 rfl rfl ?_
    refine g_bipushN (n := 6) (pc' := 7) dX12_lackingOf_5 rfl (by decide) ?_
    refine g_icmp_geN (tgt := 47) (pc' := 10) dX12_lackingOf_7 rfl (by decide) (by omega) (by omega) (fun c7 => ?_) (fun c7 => ?_)
    · exact absurd c7 (by omega)
    ·
      refine g_iload_n (pc' := 11) dX12_lackingOf_10 rfl rfl ?_
      refine g_aload_n (pc' := 12) dX12_lackingOf_11 rfl rfl ?_
      refine g_getS (pc' := 15) (k := 13) (b := (113, 0)) dX12_lackingOf_12 rfl rfl ck_13 (by decide) fl_X12_29 rfl hs rfl ?_
      refine g_bipushN (n := 6) (pc' := 17) dX12_lackingOf_15 rfl (by decide) ?_
      refine g_aload_n (pc' := 18) dX12_lackingOf_17 rfl rfl ?_
      refine g_getS (pc' := 21) (k := 15) (b := (115, 0)) dX12_lackingOf_18 rfl rfl ck_13 (by decide) fl_X12_35 rfl hs rfl ?_
      refine g_iload_n (pc' := 22) dX12_lackingOf_21 rfl rfl ?_
      refine g_ialdN (pc' := 23) (v := nI (kd (mo h) t)) dX12_lackingOf_22 rfl rfl (by decide) (by omega) ((hw.kd ht).1) ?_
      refine g_imulN (pc' := 24) dX12_lackingOf_23 rfl ?_
      refine g_iload_n (pc' := 25) dX12_lackingOf_24 rfl rfl ?_
      refine g_iaddN (pc' := 26) dX12_lackingOf_25 rfl ?_
      refine g_ialdN (pc' := 27) (v := _) dX12_lackingOf_26 rfl rfl (by decide) (by omega) (rfl) ?_
      refine g_aload_n (pc' := 28) dX12_lackingOf_27 rfl rfl ?_
      refine g_getS (pc' := 31) (k := 25) (b := (125, 0)) dX12_lackingOf_28 rfl rfl ck_13 (by decide) fl_X12_66 rfl hs rfl ?_
      refine g_bipushN (n := 6) (pc' := 33) dX12_lackingOf_31 rfl (by decide) ?_
      refine g_iload_n (pc' := 34) dX12_lackingOf_33 rfl rfl ?_
      refine g_imulN (pc' := 35) dX12_lackingOf_34 rfl ?_
      refine g_iload_n (pc' := 36) dX12_lackingOf_35 rfl rfl ?_
      refine g_iaddN (pc' := 37) dX12_lackingOf_36 rfl ?_
      refine g_ialdN (pc' := 38) (v := _) dX12_lackingOf_37 rfl rfl (by decide) (by omega) (rfl) ?_
      refine g_isub (pc' := 39) dX12_lackingOf_38 rfl ?_
      refine g_iadd (pc' := 40) dX12_lackingOf_39 rfl ?_
      refine g_istore_n (pc' := 41) dX12_lackingOf_40 rfl (by decide) rfl ?_
      try simp only [List.set]
      refine g_iincN (k := 1) (pc' := 44) dX12_lackingOf_41 rfl rfl (by decide) rfl ?_
      try simp only [List.set]
      refine g_goto (tgt := 4) dX12_lackingOf_44 (by decide) ?_
      have q := ih (s + 1) (by omega) (by omega)
      exact q
set_option maxRecDepth 4000 in
theorem cm_lackingOf {E : En} (hok : EOK E) {h : Hp} (hs : Shp h.2) (hw : Wf (mo h)) {t : Nat} (ht : t < nT (mo h)) : Fn E m_X12_lackingOf 0 [vR MO, vI (nI t)] h (vI (lck (mo h) t)) := by
  have hNw : h.1 MO 2 = nI (nW (mo h)) := hw.w.1
  have hNwb := hw.w.2
  have hC : h.1 MO 30 = nI (nC (mo h)) := hw.c.1
  have hCb := hw.c.2
  have hK : h.1 MO 3 = nI (nK (mo h)) := hw.k.1
  have hKb := hw.k.2
  have hT : h.1 MO 4 = nI (nT (mo h)) := hw.t.1
  have hTb := hw.t.2
  have hF : h.1 MO 5 = nI (nF (mo h)) := hw.f.1
  have hFb := hw.f.2
  have hRc : h.1 MO 59 = nI (nR (mo h)) := hw.r.1
  have hRb := hw.r.2
  have hG : h.1 MO 60 = nI (nGf (mo h)) := hw.g.1
  have hGb := hw.g.2
  have hA : h.1 MO 70 = nI (nA (mo h)) := hw.a.1
  have hAb := hw.a.2
  have hTl : h.1 MO 1 = nI (nTl (mo h)) := hw.tl.1
  have hTlb := hw.tl.2
  refine Call.enter hok (by decide) (Nat.le_of_ble_eq_true rfl) ?_
  show G E m_X12_lackingOf 0 0 0 _ h 0 [some (vR MO), some (vI (nI t)), none, none] [] h 0 0
  refine g_iconst (v := 0) (pc' := 1) dX12_lackingOf_0 rfl (by decide) ?_
  refine g_istore_n (pc' := 2) dX12_lackingOf_1 rfl (by decide) rfl ?_
  try simp only [List.set]
  refine g_iconstN (n := 0) (pc' := 3) dX12_lackingOf_2 rfl ?_
  refine g_istore_n (pc' := 4) dX12_lackingOf_3 rfl (by decide) rfl ?_
  try simp only [List.set]
  exact lm_lackingOf hok hs hw ht (Nat.le_refl _) ⟨rfl, rfl⟩ _ 0 (Nat.zero_le _) rfl
set_option maxRecDepth 4000 in
theorem lm_mendTime {E : En} (hok : EOK E) {h h0 : Hp} (hs : Shp h.2) (hw : Wf (mo h)) {t : Nat} (ht : t < nT (mo h)) {d : Nat} (hd : 0 ≤ d) {Q : Option V → Hp → Prop} (hQ : Q (some (vI (mndT (mo h) t))) h) : ∀ n s : Nat, s ≤ 6 → 6 - s = n → G E m_X12_mendTime d 0 0 Q h0 4 [some (vR MO), some (vI (nI t)), some (vI (sm (fun s => mo h 191 s * (mo h 113 (6 * kd (mo h) t + s) - mo h 125 (6 * t + s))) s)), some (vI (nI s))] [] h 0 0 := by
  have hNw : h.1 MO 2 = nI (nW (mo h)) := hw.w.1
  have hNwb := hw.w.2
  have hC : h.1 MO 30 = nI (nC (mo h)) := hw.c.1
  have hCb := hw.c.2
  have hK : h.1 MO 3 = nI (nK (mo h)) := hw.k.1
  have hKb := hw.k.2
  have hT : h.1 MO 4 = nI (nT (mo h)) := hw.t.1
  have hTb := hw.t.2
  have hF : h.1 MO 5 = nI (nF (mo h)) := hw.f.1
  have hFb := hw.f.2
  have hRc : h.1 MO 59 = nI (nR (mo h)) := hw.r.1
  have hRb := hw.r.2
  have hG : h.1 MO 60 = nI (nGf (mo h)) := hw.g.1
  have hGb := hw.g.2
  have hA : h.1 MO 70 = nI (nA (mo h)) := hw.a.1
  have hAb := hw.a.2
  have hTl : h.1 MO 1 = nI (nTl (mo h)) := hw.tl.1
  have hTlb := hw.tl.2
  have hkd := (hw.kd ht).2
  intro n
  induction n with
  | zero =>
    intro s h1 h2
    refine g_iload_n (pc' := 5) dX12_mendTime_4 rfl rfl ?_
    refine g_bipushN (n := 6) (pc' := 7) dX12_mendTime_5 rfl (by decide) ?_
    refine g_icmp_geN (tgt := 54) (pc' := 10) dX12_mendTime_7 rfl (by decide) (by omega) (by omega) (fun c7 => ?_) (fun c7 => ?_)
    ·
      refine g_iload_n (pc' := 55) dX12_mendTime_54 rfl rfl ?_
      refine g_iret dX12_mendTime_55 rfl (by decide) (by decide) ?_
      have e : s = 6 := by omega
      subst e
      exact hQ
    · exact absurd c7 (by omega)
  | succ n ih =>
    intro s h1 h2
    refine g_iload_n (pc' := 5) dX12_mendTime_4 rfl rfl ?_
    refine g_bipushN (n := 6) (pc' := 7) dX12_mendTime_5 rfl (by decide) ?_
    refine g_icmp_geN (tgt := 54) (pc' := 10) dX12_mendTime_7 rfl (by decide) (by omega) (by omega) (fun c7 => ?_) (fun c7 => ?_)
    · exact absurd c7 (by omega)
    ·
      refine g_iload_n (pc' := 11) dX12_mendTime_10 rfl rfl ?_
      refine g_aload_n (pc' := 12) dX12_mendTime_11 rfl rfl ?_
      refine g_getS (pc' := 15) (k := 91) (b := (191, 0)) dX12_mendTime_12 rfl rfl ck_13 (by decide) fl_X12_198 rfl hs rfl ?_
      refine g_iload_n (pc' := 16) dX12_mendTime_15 rfl rfl ?_
      refine g_ialdN (pc' := 17) (v := _) dX12_mendTime_16 rfl rfl (by decide) (by omega) (rfl) ?_
      refine g_aload_n (pc' := 18) dX12_mendTime_17 rfl rfl ?_
      refine g_getS (pc' := 21) (k := 13) (b := (113, 0)) dX12_mendTime_18 rfl rfl ck_13 (by decide) fl_X12_29 rfl hs rfl ?_
      refine g_bipushN (n := 6) (pc' := 23) dX12_mendTime_21 rfl (by decide) ?_
      refine g_aload_n (pc' := 24) dX12_mendTime_23 rfl rfl ?_
      refine g_getS (pc' := 27) (k := 15) (b := (115, 0)) dX12_mendTime_24 rfl rfl ck_13 (by decide) fl_X12_35 rfl hs rfl ?_
      refine g_iload_n (pc' := 28) dX12_mendTime_27 rfl rfl ?_
      refine g_ialdN (pc' := 29) (v := nI (kd (mo h) t)) dX12_mendTime_28 rfl rfl (by decide) (by omega) ((hw.kd ht).1) ?_
      refine g_imulN (pc' := 30) dX12_mendTime_29 rfl ?_
      refine g_iload_n (pc' := 31) dX12_mendTime_30 rfl rfl ?_
      refine g_iaddN (pc' := 32) dX12_mendTime_31 rfl ?_
      refine g_ialdN (pc' := 33) (v := _) dX12_mendTime_32 rfl rfl (by decide) (by omega) (rfl) ?_
      refine g_aload_n (pc' := 34) dX12_mendTime_33 rfl rfl ?_
      refine g_getS (pc' := 37) (k := 25) (b := (125, 0)) dX12_mendTime_34 rfl rfl ck_13 (by decide) fl_X12_66 rfl hs rfl ?_
      refine g_bipushN (n := 6) (pc' := 39) dX12_mendTime_37 rfl (by decide) ?_
      refine g_iload_n (pc' := 40) dX12_mendTime_39 rfl rfl ?_
      refine g_imulN (pc' := 41) dX12_mendTime_40 rfl ?_
      refine g_iload_n (pc' := 42) dX12_mendTime_41 rfl rfl ?_
      refine g_iaddN (pc' := 43) dX12_mendTime_42 rfl ?_
      refine g_ialdN (pc' := 44) (v := _) dX12_mendTime_43 rfl rfl (by decide) (by omega) (rfl) ?_
      refine g_isub (pc' := 45) dX12_mendTime_44 rfl ?_
      refine g_imul (pc' := 46) dX12_mendTime_45 rfl ?_
      refine g_iadd (pc' := 47) dX12_mendTime_46 rfl ?_
      refine g_istore_n (pc' := 48) dX12_mendTime_47 rfl (by decide) rfl ?_
      try simp only [List.set]
      refine g_iincN (k := 1) (pc' := 51) dX12_mendTime_48 rfl rfl (by decide) rfl ?_
      try simp only [List.set]
      refine g_goto (tgt := 4) dX12_mendTime_51 (by decide) ?_
      have q := ih (s + 1) (by omega) (by omega)
      exact q
set_option maxRecDepth 4000 in
theorem cm_mendTime {E : En} (hok : EOK E) {h : Hp} (hs : Shp h.2) (hw : Wf (mo h)) {t : Nat} (ht : t < nT (mo h)) : Fn E m_X12_mendTime 0 [vR MO, vI (nI t)] h (vI (mndT (mo h) t)) := by
  have hNw : h.1 MO 2 = nI (nW (mo h)) := hw.w.1
  have hNwb := hw.w.2
  have hC : h.1 MO 30 = nI (nC (mo h)) := hw.c.1
  have hCb := hw.c.2
  have hK : h.1 MO 3 = nI (nK (mo h)) := hw.k.1
  have hKb := hw.k.2
  have hT : h.1 MO 4 = nI (nT (mo h)) := hw.t.1
  have hTb := hw.t.2
  have hF : h.1 MO 5 = nI (nF (mo h)) := hw.f.1
  have hFb := hw.f.2
  have hRc : h.1 MO 59 = nI (nR (mo h)) := hw.r.1
  have hRb := hw.r.2
  have hG : h.1 MO 60 = nI (nGf (mo h)) := hw.g.1
  have hGb := hw.g.2
  have hA : h.1 MO 70 = nI (nA (mo h)) := hw.a.1
  have hAb := hw.a.2
  have hTl : h.1 MO 1 = nI (nTl (mo h)) := hw.tl.1
  have hTlb := hw.tl.2
  refine Call.enter hok (by decide) (Nat.le_of_ble_eq_true rfl) ?_
  show G E m_X12_mendTime 0 0 0 _ h 0 [some (vR MO), some (vI (nI t)), none, none] [] h 0 0
  refine g_iconst (v := 0) (pc' := 1) dX12_mendTime_0 rfl (by decide) ?_
  refine g_istore_n (pc' := 2) dX12_mendTime_1 rfl (by decide) rfl ?_
  try simp only [List.set]
  refine g_iconstN (n := 0) (pc' := 3) dX12_mendTime_2 rfl ?_
  refine g_istore_n (pc' := 4) dX12_mendTime_3 rfl (by decide) rfl ?_
  try simp only [List.set]
  exact lm_mendTime hok hs hw ht (Nat.le_refl _) ⟨rfl, rfl⟩ _ 0 (Nat.zero_le _) rfl
set_option maxRecDepth 4000 in
theorem lm_bagOf {E : En} (hok : EOK E) {h h0 : Hp} (hs : Shp h.2) (hw : Wf (mo h)) {t : Nat} (ht : t < nT (mo h)) {d : Nat} (hd : 0 ≤ d) {Q : Option V → Hp → Prop} (hQ : Q (some (vI (bagW (mo h) t))) h) : ∀ n s : Nat, s ≤ 6 → 6 - s = n → G E m_X12_bagOf d 0 0 Q h0 7 [some (vR MO), some (vI (nI t)), some (vI (mo h 1 6 + sm (fun s => mo h 125 (6 * t + s) * mo h 114 (6 * kd (mo h) t + s)) s)), some (vI (nI s))] [] h 0 0 := by
  have hNw : h.1 MO 2 = nI (nW (mo h)) := hw.w.1
  have hNwb := hw.w.2
  have hC : h.1 MO 30 = nI (nC (mo h)) := hw.c.1
  have hCb := hw.c.2
  have hK : h.1 MO 3 = nI (nK (mo h)) := hw.k.1
  have hKb := hw.k.2
  have hT : h.1 MO 4 = nI (nT (mo h)) := hw.t.1
  have hTb := hw.t.2
  have hF : h.1 MO 5 = nI (nF (mo h)) := hw.f.1
  have hFb := hw.f.2
  have hRc : h.1 MO 59 = nI (nR (mo h)) := hw.r.1
  have hRb := hw.r.2
  have hG : h.1 MO 60 = nI (nGf (mo h)) := hw.g.1
  have hGb := hw.g.2
  have hA : h.1 MO 70 = nI (nA (mo h)) := hw.a.1
  have hAb := hw.a.2
  have hTl : h.1 MO 1 = nI (nTl (mo h)) := hw.tl.1
  have hTlb := hw.tl.2
  have hkd := (hw.kd ht).2
  intro n
  induction n with
  | zero =>
    intro s h1 h2
    refine g_iload_n (pc' := 8) dX12_bagOf_7 rfl rfl ?_
    refine g_bipushN (n := 6) (pc' := 10) dX12_bagOf_8 rfl (by decide) ?_
    refine g_icmp_geN (tgt := 50) (pc' := 13) dX12_bagOf_10 rfl (by decide) (by omega) (by omega) (fun c10 => ?_) (fun c10 => ?_)
    ·
      refine g_iload_n (pc' := 51) dX12_bagOf_50 rfl rfl ?_
      refine g_iret dX12_bagOf_51 rfl (by decide) (by decide) ?_
      have e : s = 6 := by omega
      subst e
      exact hQ
    · exact absurd c10 (by omega)
  | succ n ih =>
    intro s h1 h2
    refine g_iload_n (pc' := 8) dX12_bagOf_7 rfl rfl ?_
    refine g_bipushN (n := 6) (pc' := 10) dX12_bagOf_8 rfl (by decide) ?_
    refine g_icmp_geN (tgt := 50) (pc' := 13) dX12_bagOf_10 rfl (by decide) (by omega) (by omega) (fun c10 => ?_) (fun c10 => ?_)
    · exact absurd c10 (by omega)
    ·
      refine g_iload_n (pc' := 14) dX12_bagOf_13 rfl rfl ?_
      refine g_aload_n (pc' := 15) dX12_bagOf_14 rfl rfl ?_
      refine g_getS (pc' := 18) (k := 25) (b := (125, 0)) dX12_bagOf_15 rfl rfl ck_13 (by decide) fl_X12_66 rfl hs rfl ?_
      refine g_bipushN (n := 6) (pc' := 20) dX12_bagOf_18 rfl (by decide) ?_
      refine g_iload_n (pc' := 21) dX12_bagOf_20 rfl rfl ?_
      refine g_imulN (pc' := 22) dX12_bagOf_21 rfl ?_
      refine g_iload_n (pc' := 23) dX12_bagOf_22 rfl rfl ?_
      refine g_iaddN (pc' := 24) dX12_bagOf_23 rfl ?_
      refine g_ialdN (pc' := 25) (v := _) dX12_bagOf_24 rfl rfl (by decide) (by omega) (rfl) ?_
      refine g_aload_n (pc' := 26) dX12_bagOf_25 rfl rfl ?_
      refine g_getS (pc' := 29) (k := 14) (b := (114, 0)) dX12_bagOf_26 rfl rfl ck_13 (by decide) fl_X12_32 rfl hs rfl ?_
      refine g_bipushN (n := 6) (pc' := 31) dX12_bagOf_29 rfl (by decide) ?_
      refine g_aload_n (pc' := 32) dX12_bagOf_31 rfl rfl ?_
      refine g_getS (pc' := 35) (k := 15) (b := (115, 0)) dX12_bagOf_32 rfl rfl ck_13 (by decide) fl_X12_35 rfl hs rfl ?_
      refine g_iload_n (pc' := 36) dX12_bagOf_35 rfl rfl ?_
      refine g_ialdN (pc' := 37) (v := nI (kd (mo h) t)) dX12_bagOf_36 rfl rfl (by decide) (by omega) ((hw.kd ht).1) ?_
      refine g_imulN (pc' := 38) dX12_bagOf_37 rfl ?_
      refine g_iload_n (pc' := 39) dX12_bagOf_38 rfl rfl ?_
      refine g_iaddN (pc' := 40) dX12_bagOf_39 rfl ?_
      refine g_ialdN (pc' := 41) (v := _) dX12_bagOf_40 rfl rfl (by decide) (by omega) (rfl) ?_
      refine g_imul (pc' := 42) dX12_bagOf_41 rfl ?_
      refine g_iadd (pc' := 43) dX12_bagOf_42 rfl ?_
      refine g_istore_n (pc' := 44) dX12_bagOf_43 rfl (by decide) rfl ?_
      try simp only [List.set]
      refine g_iincN (k := 1) (pc' := 47) dX12_bagOf_44 rfl rfl (by decide) rfl ?_
      try simp only [List.set]
      refine g_goto (tgt := 7) dX12_bagOf_47 (by decide) ?_
      have q := ih (s + 1) (by omega) (by omega)
      rw [sm_s, ← Int32.add_assoc] at q
      exact q
set_option maxRecDepth 4000 in
theorem cm_bagOf {E : En} (hok : EOK E) {h : Hp} (hs : Shp h.2) (hw : Wf (mo h)) {t : Nat} (ht : t < nT (mo h)) : Fn E m_X12_bagOf 0 [vR MO, vI (nI t)] h (vI (bagW (mo h) t)) := by
  have hNw : h.1 MO 2 = nI (nW (mo h)) := hw.w.1
  have hNwb := hw.w.2
  have hC : h.1 MO 30 = nI (nC (mo h)) := hw.c.1
  have hCb := hw.c.2
  have hK : h.1 MO 3 = nI (nK (mo h)) := hw.k.1
  have hKb := hw.k.2
  have hT : h.1 MO 4 = nI (nT (mo h)) := hw.t.1
  have hTb := hw.t.2
  have hF : h.1 MO 5 = nI (nF (mo h)) := hw.f.1
  have hFb := hw.f.2
  have hRc : h.1 MO 59 = nI (nR (mo h)) := hw.r.1
  have hRb := hw.r.2
  have hG : h.1 MO 60 = nI (nGf (mo h)) := hw.g.1
  have hGb := hw.g.2
  have hA : h.1 MO 70 = nI (nA (mo h)) := hw.a.1
  have hAb := hw.a.2
  have hTl : h.1 MO 1 = nI (nTl (mo h)) := hw.tl.1
  have hTlb := hw.tl.2
  refine Call.enter hok (by decide) (Nat.le_of_ble_eq_true rfl) ?_
  show G E m_X12_bagOf 0 0 0 _ h 0 [some (vR MO), some (vI (nI t)), none, none] [] h 0 0
  refine g_aload_n (pc' := 1) dX12_bagOf_0 rfl rfl ?_
  refine g_getI (pc' := 4) (k := 6) dX12_bagOf_1 rfl rfl ck_13 (by decide) fl_X12_247 rfl ?_
  refine g_istore_n (pc' := 5) dX12_bagOf_4 rfl (by decide) rfl ?_
  try simp only [List.set]
  refine g_iconstN (n := 0) (pc' := 6) dX12_bagOf_5 rfl ?_
  refine g_istore_n (pc' := 7) dX12_bagOf_6 rfl (by decide) rfl ?_
  try simp only [List.set]
  have q := lm_bagOf hok hs hw ht (h0 := h) (Nat.le_refl _) (Q := fun r h' => r = some (vI (bagW (mo h) t)) ∧ h = h') ⟨rfl, rfl⟩ _ 0 (Nat.zero_le _) rfl
  rw [show sm (fun s => mo h 125 (6 * t + s) * mo h 114 (6 * kd (mo h) t + s)) 0 = 0 from rfl, Int32.add_zero] at q
  exact q
set_option maxRecDepth 4000 in
theorem cm_isOf {E : En} (hok : EOK E) {h : Hp} (hs : Shp h.2) (hw : Wf (mo h)) {r t : Nat} (hr : r < 10) (ht : t < nT (mo h)) : Fn E m_X12_isOf 1 [vR MO, vI (nI r), vI (nI t)] h (vI (bi (isOfm (mo h) r t))) := by
  have hNw : h.1 MO 2 = nI (nW (mo h)) := hw.w.1
  have hNwb := hw.w.2
  have hC : h.1 MO 30 = nI (nC (mo h)) := hw.c.1
  have hCb := hw.c.2
  have hK : h.1 MO 3 = nI (nK (mo h)) := hw.k.1
  have hKb := hw.k.2
  have hT : h.1 MO 4 = nI (nT (mo h)) := hw.t.1
  have hTb := hw.t.2
  have hF : h.1 MO 5 = nI (nF (mo h)) := hw.f.1
  have hFb := hw.f.2
  have hRc : h.1 MO 59 = nI (nR (mo h)) := hw.r.1
  have hRb := hw.r.2
  have hG : h.1 MO 60 = nI (nGf (mo h)) := hw.g.1
  have hGb := hw.g.2
  have hA : h.1 MO 70 = nI (nA (mo h)) := hw.a.1
  have hAb := hw.a.2
  have hTl : h.1 MO 1 = nI (nTl (mo h)) := hw.tl.1
  have hTlb := hw.tl.2
  have hkd := (hw.kd ht).2
  refine Call.enter hok (by decide) (Nat.le_of_ble_eq_true rfl) ?_
  show G E m_X12_isOf 1 0 0 _ h 0 [some (vR MO), some (vI (nI r)), some (vI (nI t))] [] h 0 0
  refine g_aload_n (pc' := 1) dX12_isOf_0 rfl rfl ?_
  refine g_getS (pc' := 4) (k := 61) (b := (161, 0)) dX12_isOf_1 rfl rfl ck_13 (by decide) fl_X12_126 rfl hs rfl ?_
  refine g_iload_n (pc' := 5) dX12_isOf_4 rfl rfl ?_
  refine g_ialdN (pc' := 6) (v := _) dX12_isOf_5 rfl rfl (by decide) (by omega) (rfl) ?_
  refine g_aload_n (pc' := 7) dX12_isOf_6 rfl rfl ?_
  refine g_getS (pc' := 10) (k := 11) (b := (111, 0)) dX12_isOf_7 rfl rfl ck_13 (by decide) fl_X12_23 rfl hs rfl ?_
  refine g_aload_n (pc' := 11) dX12_isOf_10 rfl rfl ?_
  refine g_getS (pc' := 14) (k := 15) (b := (115, 0)) dX12_isOf_11 rfl rfl ck_13 (by decide) fl_X12_35 rfl hs rfl ?_
  refine g_iload_n (pc' := 15) dX12_isOf_14 rfl rfl ?_
  refine g_ialdN (pc' := 16) (v := nI (kd (mo h) t)) dX12_isOf_15 rfl rfl (by decide) (by omega) ((hw.kd ht).1) ?_
  refine g_ialdN (pc' := 17) (v := _) dX12_isOf_16 rfl rfl (by decide) (by omega) (rfl) ?_
  refine g_icmp_ne (tgt := 51) (pc' := 20) dX12_isOf_17 rfl (by decide) (fun c17 => ?_) (fun c17 => ?_)
  ·
    refine g_iconstN (n := 0) (pc' := 52) dX12_isOf_51 rfl ?_
    refine g_zret dX12_isOf_52 rfl (by rfl) (by decide) (by decide) ?_
    exact ⟨congrArg (fun z : Int32 => some (vI z)) (bi_f (P := isOfm (mo h) r t) (fun z => c17 z.1)).symm, rfl⟩
  ·
    refine g_aload_n (pc' := 21) dX12_isOf_20 rfl rfl ?_
    refine g_getS (pc' := 24) (k := 16) (b := (116, 0)) dX12_isOf_21 rfl rfl ck_13 (by decide) fl_X12_38 rfl hs rfl ?_
    refine g_iload_n (pc' := 25) dX12_isOf_24 rfl rfl ?_
    refine g_ialdN (pc' := 26) (v := _) dX12_isOf_25 rfl rfl (by decide) (by omega) (rfl) ?_
    refine g_i2l (pc' := 27) dX12_isOf_26 rfl ?_
    refine g_aload_n (pc' := 28) dX12_isOf_27 rfl rfl ?_
    refine g_getS (pc' := 31) (k := 62) (b := (162, 0)) dX12_isOf_28 rfl rfl ck_13 (by decide) fl_X12_129 rfl hs rfl ?_
    refine g_iload_n (pc' := 32) dX12_isOf_31 rfl rfl ?_
    refine g_ialdN (pc' := 33) (v := _) dX12_isOf_32 rfl rfl (by decide) (by omega) (rfl) ?_
    refine g_i2l (pc' := 34) dX12_isOf_33 rfl ?_
    refine g_aload_n (pc' := 35) dX12_isOf_34 rfl rfl ?_
    refine g_getS (pc' := 38) (k := 63) (b := (163, 0)) dX12_isOf_35 rfl rfl ck_13 (by decide) fl_X12_132 rfl hs rfl ?_
    refine g_iload_n (pc' := 39) dX12_isOf_38 rfl rfl ?_
    refine g_ialdN (pc' := 40) (v := _) dX12_isOf_39 rfl rfl (by decide) (by omega) (rfl) ?_
    refine g_i2l (pc' := 41) dX12_isOf_40 rfl ?_
    refine g_invS (pc' := 44) (c_liesI hok _ _ _ rfl rfl rfl) dX12_isOf_41 rfl ml_X12_203 st_X12_lies in_X12 co_X12_lies pd_X12_lies rfl (by omega) (by decide) ⟨by decide, by decide⟩ (Nat.le_of_ble_eq_true rfl) ?_
    rintro _ _ ⟨rfl, rfl⟩ -
    refine g_ifB_eq (tgt := 51) (pc' := 47) dX12_isOf_44 rfl (by decide) (fun c44 => ?_) (fun c44 => ?_)
    ·
      refine g_iconstN (n := 0) (pc' := 52) dX12_isOf_51 rfl ?_
      refine g_zret dX12_isOf_52 rfl (by rfl) (by decide) (by decide) ?_
      exact ⟨congrArg (fun z : Int32 => some (vI z)) (bi_f (P := isOfm (mo h) r t) (fun z => c44 z.2)).symm, rfl⟩
    ·
      refine g_iconstN (n := 1) (pc' := 48) dX12_isOf_47 rfl ?_
      refine g_goto (tgt := 52) dX12_isOf_48 (by decide) ?_
      refine g_zret dX12_isOf_52 rfl (by rfl) (by decide) (by decide) ?_
      exact ⟨congrArg (fun z : Int32 => some (vI z)) (bi_t (P := isOfm (mo h) r t) ⟨c17, c44⟩).symm, rfl⟩
set_option maxRecDepth 4000 in
theorem lm_isRecalled {E : En} (hok : EOK E) {h h0 : Hp} (hs : Shp h.2) (hw : Wf (mo h)) {t : Nat} (ht : t < nT (mo h)) {d : Nat} (hd : 2 ≤ d) {Q : Option V → Hp → Prop} (hQ : Q (some (vI (bi (isRec (mo h) t)))) h) : ∀ n r : Nat, r ≤ nR (mo h) → nR (mo h) - r = n → (∀ i, i < r → ¬ isOfm (mo h) i t) → G E m_X12_isRecalled d 0 0 Q h0 2 [some (vR MO), some (vI (nI t)), some (vI (nI r))] [] h 0 0 := by
  have hNw : h.1 MO 2 = nI (nW (mo h)) := hw.w.1
  have hNwb := hw.w.2
  have hC : h.1 MO 30 = nI (nC (mo h)) := hw.c.1
  have hCb := hw.c.2
  have hK : h.1 MO 3 = nI (nK (mo h)) := hw.k.1
  have hKb := hw.k.2
  have hT : h.1 MO 4 = nI (nT (mo h)) := hw.t.1
  have hTb := hw.t.2
  have hF : h.1 MO 5 = nI (nF (mo h)) := hw.f.1
  have hFb := hw.f.2
  have hRc : h.1 MO 59 = nI (nR (mo h)) := hw.r.1
  have hRb := hw.r.2
  have hG : h.1 MO 60 = nI (nGf (mo h)) := hw.g.1
  have hGb := hw.g.2
  have hA : h.1 MO 70 = nI (nA (mo h)) := hw.a.1
  have hAb := hw.a.2
  have hTl : h.1 MO 1 = nI (nTl (mo h)) := hw.tl.1
  have hTlb := hw.tl.2
  intro n
  induction n with
  | zero =>
    intro r h1 h2 hi
    refine g_iload_n (pc' := 3) dX12_isRecalled_2 rfl rfl ?_
    refine g_aload_n (pc' := 4) dX12_isRecalled_3 rfl rfl ?_
    refine g_getIv (v := nI (nR (mo h))) (pc' := 7) (k := 59) dX12_isRecalled_4 rfl rfl ck_13 (by decide) fl_X12_419 rfl (hRc) ?_
    refine g_icmp_geN (tgt := 27) (pc' := 10) dX12_isRecalled_7 rfl (by decide) (by omega) (by omega) (fun c7 => ?_) (fun c7 => ?_)
    ·
      refine g_iconstN (n := 0) (pc' := 28) dX12_isRecalled_27 rfl ?_
      refine g_zret dX12_isRecalled_28 rfl (by rfl) (by decide) (by decide) ?_
      rw [bi_f (P := isRec (mo h) t) (by rintro ⟨i, q1, q2⟩; exact hi i (by omega) q2)] at hQ
      exact hQ
    · exact absurd c7 (by omega)
  | succ n ih =>
    intro r h1 h2 hi
    refine g_iload_n (pc' := 3) dX12_isRecalled_2 rfl rfl ?_
    refine g_aload_n (pc' := 4) dX12_isRecalled_3 rfl rfl ?_
    refine g_getIv (v := nI (nR (mo h))) (pc' := 7) (k := 59) dX12_isRecalled_4 rfl rfl ck_13 (by decide) fl_X12_419 rfl (hRc) ?_
    refine g_icmp_geN (tgt := 27) (pc' := 10) dX12_isRecalled_7 rfl (by decide) (by omega) (by omega) (fun c7 => ?_) (fun c7 => ?_)
    · exact absurd c7 (by omega)
    ·
      refine g_aload_n (pc' := 11) dX12_isRecalled_10 rfl rfl ?_
      refine g_iload_n (pc' := 12) dX12_isRecalled_11 rfl rfl ?_
      refine g_iload_n (pc' := 13) dX12_isRecalled_12 rfl rfl ?_
      refine g_invV (pc' := 16) (cm_isOf hok hs hw (by omega) (by omega)) dX12_isRecalled_13 rfl rfl ck_13 rfl ml_X12_422 im_X12_isOf sl_X12_isOf in_X12 co_X12_isOf pd_X12_isOf rfl (by omega) (by decide) ⟨by decide, by decide⟩ (Nat.le_of_ble_eq_true rfl) ?_
      rintro _ _ ⟨rfl, rfl⟩ -
      refine g_ifB_eq (tgt := 21) (pc' := 19) dX12_isRecalled_16 rfl (by decide) (fun c16 => ?_) (fun c16 => ?_)
      ·
        refine g_iincN (k := 1) (pc' := 24) dX12_isRecalled_21 rfl rfl (by decide) rfl ?_
        try simp only [List.set]
        refine g_goto (tgt := 2) dX12_isRecalled_24 (by decide) ?_
        exact ih (r + 1) (by omega) (by omega) (lt_s hi c16)
      ·
        refine g_iconstN (n := 1) (pc' := 20) dX12_isRecalled_19 rfl ?_
        refine g_zret dX12_isRecalled_20 rfl (by rfl) (by decide) (by decide) ?_
        rw [bi_t (P := isRec (mo h) t) ⟨r, by omega, c16⟩] at hQ
        exact hQ
set_option maxRecDepth 4000 in
theorem cm_isRecalled {E : En} (hok : EOK E) {h : Hp} (hs : Shp h.2) (hw : Wf (mo h)) {t : Nat} (ht : t < nT (mo h)) : Fn E m_X12_isRecalled 2 [vR MO, vI (nI t)] h (vI (bi (isRec (mo h) t))) := by
  have hNw : h.1 MO 2 = nI (nW (mo h)) := hw.w.1
  have hNwb := hw.w.2
  have hC : h.1 MO 30 = nI (nC (mo h)) := hw.c.1
  have hCb := hw.c.2
  have hK : h.1 MO 3 = nI (nK (mo h)) := hw.k.1
  have hKb := hw.k.2
  have hT : h.1 MO 4 = nI (nT (mo h)) := hw.t.1
  have hTb := hw.t.2
  have hF : h.1 MO 5 = nI (nF (mo h)) := hw.f.1
  have hFb := hw.f.2
  have hRc : h.1 MO 59 = nI (nR (mo h)) := hw.r.1
  have hRb := hw.r.2
  have hG : h.1 MO 60 = nI (nGf (mo h)) := hw.g.1
  have hGb := hw.g.2
  have hA : h.1 MO 70 = nI (nA (mo h)) := hw.a.1
  have hAb := hw.a.2
  have hTl : h.1 MO 1 = nI (nTl (mo h)) := hw.tl.1
  have hTlb := hw.tl.2
  refine Call.enter hok (by decide) (Nat.le_of_ble_eq_true rfl) ?_
  show G E m_X12_isRecalled 2 0 0 _ h 0 [some (vR MO), some (vI (nI t)), none] [] h 0 0
  refine g_iconstN (n := 0) (pc' := 1) dX12_isRecalled_0 rfl ?_
  refine g_istore_n (pc' := 2) dX12_isRecalled_1 rfl (by decide) rfl ?_
  try simp only [List.set]
  exact lm_isRecalled hok hs hw ht (Nat.le_refl _) ⟨rfl, rfl⟩ _ 0 (Nat.zero_le _) rfl (fun i q => absurd q (Nat.not_lt_zero i))
