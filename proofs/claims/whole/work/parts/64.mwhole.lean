set_option maxRecDepth 4000 in
theorem lm_wholeOf1 {E : En} (hok : EOK E) {h h0 : Hp} (hs : Shp h.2) (hw : Wf (mo h)) (hx : Wx (mo h)) {k : Nat} (hk : k < nK (mo h)) {d : Nat} (hd : 4 ≤ d) {Q : Option V → Hp → Prop} (hQ : G E m_X12_wholeOf d 0 0 Q h0 35 [some (vR MO), some (vI (nI k)), some (vI (nI (cnt (sp (mo h) k) (nT (mo h))))), none, none, none] [] h 0 0) : ∀ n t : Nat, t ≤ nT (mo h) → nT (mo h) - t = n → G E m_X12_wholeOf d 0 0 Q h0 4 [some (vR MO), some (vI (nI k)), some (vI (nI (cnt (sp (mo h) k) t))), some (vI (nI t)), none, none] [] (h) 0 0 := by
  have hNw : h.1 MO 2 = nI (nW (mo h)) := hw.w.1
  have hNwb := hw.w.2
  have hC : h.1 MO 30 = nI (nC (mo h)) := hw.c.1
  have hCb := hw.c.2
  have hK : h.1 MO 3 = nI (nK (mo h)) := hw.k.1
  have hKb := hw.k.2
  have hT : h.1 MO 4 = nI (nT (mo h)) := hw.t.1
  have hTb := hw.t.2
  have hF : h.1 MO 5 = nI (nF (mo h)) := hw.f.1
  have hFb := hw.f.2
  have hRc : h.1 MO 59 = nI (nR (mo h)) := hw.r.1
  have hRb := hw.r.2
  have hG : h.1 MO 60 = nI (nGf (mo h)) := hw.g.1
  have hGb := hw.g.2
  have hA : h.1 MO 70 = nI (nA (mo h)) := hw.a.1
  have hAb := hw.a.2
  have hTl : h.1 MO 1 = nI (nTl (mo h)) := hw.tl.1
  have hTlb := hw.tl.2
  intro n
  induction n with
  | zero =>
    intro t h1 h2
    refine g_iload_n (pc' := 5) dX12_wholeOf_4 rfl rfl ?_
    refine g_aload_n (pc' := 6) dX12_wholeOf_5 rfl rfl ?_
    refine g_getIv (v := nI (nT (mo h))) (pc' := 9) (k := 4) dX12_wholeOf_6 rfl rfl ck_13 (by decide) fl_X12_211 rfl (hT) ?_
    refine g_icmp_geN (tgt := 35) (pc' := 12) dX12_wholeOf_9 rfl (by decide) (by omega) (by omega) (fun c9 => ?_) (fun c9 => ?_)
    ·
      have e : t = nT (mo h) := by omega
      subst e
      refine G.drop 3 ?_
      simp only [List.set]
      exact hQ
    · exact absurd c9 (by omega)
  | succ n ih =>
    intro t h1 h2
    refine g_iload_n (pc' := 5) dX12_wholeOf_4 rfl rfl ?_
    refine g_aload_n (pc' := 6) dX12_wholeOf_5 rfl rfl ?_
    refine g_getIv (v := nI (nT (mo h))) (pc' := 9) (k := 4) dX12_wholeOf_6 rfl rfl ck_13 (by decide) fl_X12_211 rfl (hT) ?_
    refine g_icmp_geN (tgt := 35) (pc' := 12) dX12_wholeOf_9 rfl (by decide) (by omega) (by omega) (fun c9 => ?_) (fun c9 => ?_)
    · exact absurd c9 (by omega)
    ·
      refine g_iload_n (pc' := 13) dX12_wholeOf_12 rfl rfl ?_
      refine g_aload_n (pc' := 14) dX12_wholeOf_13 rfl rfl ?_
      refine g_iload_n (pc' := 15) dX12_wholeOf_14 rfl rfl ?_
      refine g_iload_n (pc' := 16) dX12_wholeOf_15 rfl rfl ?_
      refine g_invV (pc' := 19) (cm_isSpare hok hs hw (t := t) (k := k) (by omega) (by omega)) dX12_wholeOf_16 rfl rfl ck_13 rfl ml_X12_510 im_X12_isSpare sl_X12_isSpare in_X12 co_X12_isSpare pd_X12_isSpare rfl (by omega) (by decide) ⟨by decide, by decide⟩ (Nat.le_of_ble_eq_true rfl) ?_
      rintro _ _ ⟨rfl, rfl⟩ -
      refine g_ifB_eq (tgt := 26) (pc' := 22) dX12_wholeOf_19 rfl (by decide) (fun c19 => ?_) (fun c19 => ?_)
      ·
        refine g_iconstN (n := 0) (pc' := 27) dX12_wholeOf_26 rfl ?_
        refine g_iaddN (pc' := 28) dX12_wholeOf_27 rfl ?_
        refine g_istore_n (pc' := 29) dX12_wholeOf_28 rfl (by decide) rfl ?_
        try simp only [List.set]
        refine g_iincN (k := 1) (pc' := 32) dX12_wholeOf_29 rfl rfl (by decide) rfl ?_
        try simp only [List.set]
        refine g_goto (tgt := 4) dX12_wholeOf_32 (by decide) ?_
        have q := ih (t + 1) (by omega) (by omega)
        rw [cnt_f (p := (sp (mo h) k)) c19] at q
        exact q
      ·
        refine g_iconstN (n := 1) (pc' := 23) dX12_wholeOf_22 rfl ?_
        refine g_goto (tgt := 27) dX12_wholeOf_23 (by decide) ?_
        refine g_iaddN (pc' := 28) dX12_wholeOf_27 rfl ?_
        refine g_istore_n (pc' := 29) dX12_wholeOf_28 rfl (by decide) rfl ?_
        try simp only [List.set]
        refine g_iincN (k := 1) (pc' := 32) dX12_wholeOf_29 rfl rfl (by decide) rfl ?_
        try simp only [List.set]
        refine g_goto (tgt := 4) dX12_wholeOf_32 (by decide) ?_
        have q := ih (t + 1) (by omega) (by omega)
        rw [cnt_t (p := (sp (mo h) k)) c19] at q
        exact q
set_option maxRecDepth 4000 in
theorem lm_wholeOf3 {E : En} (hok : EOK E) {h h0 : Hp} (hs : Shp h.2) (hw : Wf (mo h)) (hx : Wx (mo h)) {k : Nat} (hk : k < nK (mo h)) {s : Nat} (hs6 : s < 6) (w : Int32) {d : Nat} (hd : 4 ≤ d) {Q : Option V → Hp → Prop} (hQ : G E m_X12_wholeOf d 0 0 Q h0 95 [some (vR MO), some (vI (nI k)), some (vI w), some (vI (nI s)), some (vI (nI (whS (mo h) k s))), none] [] h 0 0) : ∀ n t : Nat, t ≤ nT (mo h) → nT (mo h) - t = n → G E m_X12_wholeOf d 0 0 Q h0 49 [some (vR MO), some (vI (nI k)), some (vI w), some (vI (nI s)), some (vI (nI (smN (whf (mo h) k s) t))), some (vI (nI t))] [] (h) 0 0 := by
  have hNw : h.1 MO 2 = nI (nW (mo h)) := hw.w.1
  have hNwb := hw.w.2
  have hC : h.1 MO 30 = nI (nC (mo h)) := hw.c.1
  have hCb := hw.c.2
  have hK : h.1 MO 3 = nI (nK (mo h)) := hw.k.1
  have hKb := hw.k.2
  have hT : h.1 MO 4 = nI (nT (mo h)) := hw.t.1
  have hTb := hw.t.2
  have hF : h.1 MO 5 = nI (nF (mo h)) := hw.f.1
  have hFb := hw.f.2
  have hRc : h.1 MO 59 = nI (nR (mo h)) := hw.r.1
  have hRb := hw.r.2
  have hG : h.1 MO 60 = nI (nGf (mo h)) := hw.g.1
  have hGb := hw.g.2
  have hA : h.1 MO 70 = nI (nA (mo h)) := hw.a.1
  have hAb := hw.a.2
  have hTl : h.1 MO 1 = nI (nTl (mo h)) := hw.tl.1
  have hTlb := hw.tl.2
  intro n
  induction n with
  | zero =>
    intro t h1 h2
    refine g_iload (pc' := 51) dX12_wholeOf_49 rfl rfl ?_
    refine g_aload_n (pc' := 52) dX12_wholeOf_51 rfl rfl ?_
    refine g_getIv (v := nI (nT (mo h))) (pc' := 55) (k := 4) dX12_wholeOf_52 rfl rfl ck_13 (by decide) fl_X12_211 rfl (hT) ?_
    refine g_icmp_geN (tgt := 95) (pc' := 58) dX12_wholeOf_55 rfl (by decide) (by omega) (by omega) (fun c55 => ?_) (fun c55 => ?_)
    ·
      have e : t = nT (mo h) := by omega
      subst e
      refine G.drop 5 ?_
      simp only [List.set]
      exact hQ
    · exact absurd c55 (by omega)
  | succ n ih =>
    intro t h1 h2
    refine g_iload (pc' := 51) dX12_wholeOf_49 rfl rfl ?_
    refine g_aload_n (pc' := 52) dX12_wholeOf_51 rfl rfl ?_
    refine g_getIv (v := nI (nT (mo h))) (pc' := 55) (k := 4) dX12_wholeOf_52 rfl rfl ck_13 (by decide) fl_X12_211 rfl (hT) ?_
    refine g_icmp_geN (tgt := 95) (pc' := 58) dX12_wholeOf_55 rfl (by decide) (by omega) (by omega) (fun c55 => ?_) (fun c55 => ?_)
    · exact absurd c55 (by omega)
    ·
      refine g_iload (pc' := 60) dX12_wholeOf_58 rfl rfl ?_
      refine g_aload_n (pc' := 61) dX12_wholeOf_60 rfl rfl ?_
      refine g_iload (pc' := 63) dX12_wholeOf_61 rfl rfl ?_
      refine g_iload_n (pc' := 64) dX12_wholeOf_63 rfl rfl ?_
      refine g_invV (pc' := 67) (cm_isSpare hok hs hw (t := t) (k := k) (by omega) (by omega)) dX12_wholeOf_64 rfl rfl ck_13 rfl ml_X12_510 im_X12_isSpare sl_X12_isSpare in_X12 co_X12_isSpare pd_X12_isSpare rfl (by omega) (by decide) ⟨by decide, by decide⟩ (Nat.le_of_ble_eq_true rfl) ?_
      rintro _ _ ⟨rfl, rfl⟩ -
      refine g_ifB_eq (tgt := 85) (pc' := 70) dX12_wholeOf_67 rfl (by decide) (fun c67 => ?_) (fun c67 => ?_)
      ·
        refine g_iconstN (n := 0) (pc' := 86) dX12_wholeOf_85 rfl ?_
        refine g_iaddN (pc' := 87) dX12_wholeOf_86 rfl ?_
        refine g_istore (pc' := 89) dX12_wholeOf_87 rfl (by decide) rfl ?_
        try simp only [List.set]
        refine g_iincN (k := 1) (pc' := 92) dX12_wholeOf_89 rfl rfl (by decide) rfl ?_
        try simp only [List.set]
        refine g_goto (tgt := 49) dX12_wholeOf_92 (by decide) ?_
        have q := ih (t + 1) (by omega) (by omega)
        rw [smN_s] at q
        rw [show whf (mo h) k s t = 0 from cif_f c67] at q
        exact q
      ·
        refine g_aload_n (pc' := 71) dX12_wholeOf_70 rfl rfl ?_
        refine g_getS (pc' := 74) (k := 25) (b := (125, 0)) dX12_wholeOf_71 rfl rfl ck_13 (by decide) fl_X12_66 rfl hs rfl ?_
        refine g_bipushN (n := 6) (pc' := 76) dX12_wholeOf_74 rfl (by decide) ?_
        refine g_iload (pc' := 78) dX12_wholeOf_76 rfl rfl ?_
        refine g_imulN (pc' := 79) dX12_wholeOf_78 rfl ?_
        refine g_iload_n (pc' := 80) dX12_wholeOf_79 rfl rfl ?_
        refine g_iaddN (pc' := 81) dX12_wholeOf_80 rfl ?_
        refine g_ialdN (pc' := 82) (v := nI (hsN (mo h) t s)) dX12_wholeOf_81 rfl rfl (by decide) (by omega) ((hs_n hw hx (by omega) hs6).1) ?_
        refine g_goto (tgt := 86) dX12_wholeOf_82 (by decide) ?_
        refine g_iaddN (pc' := 87) dX12_wholeOf_86 rfl ?_
        refine g_istore (pc' := 89) dX12_wholeOf_87 rfl (by decide) rfl ?_
        try simp only [List.set]
        refine g_iincN (k := 1) (pc' := 92) dX12_wholeOf_89 rfl rfl (by decide) rfl ?_
        try simp only [List.set]
        refine g_goto (tgt := 49) dX12_wholeOf_92 (by decide) ?_
        have q := ih (t + 1) (by omega) (by omega)
        rw [smN_s] at q
        rw [show whf (mo h) k s t = hsN (mo h) t s from cif_t c67] at q
        exact q
set_option maxRecDepth 4000 in
theorem lm_wholeOf2 {E : En} (hok : EOK E) {h h0 : Hp} (hs : Shp h.2) (hw : Wf (mo h)) (hx : Wx (mo h)) {k : Nat} (hk : k < nK (mo h)) {d : Nat} (hd : 4 ≤ d) {Q : Option V → Hp → Prop} (hQ : Q (some (vI (nI (whN (mo h) k 6)))) h) : ∀ n s : Nat, s ≤ 6 → 6 - s = n → G E m_X12_wholeOf d 0 0 Q h0 37 [some (vR MO), some (vI (nI k)), some (vI (nI (whN (mo h) k s))), some (vI (nI s)), none, none] [] (h) 0 0 := by
  have hNw : h.1 MO 2 = nI (nW (mo h)) := hw.w.1
  have hNwb := hw.w.2
  have hC : h.1 MO 30 = nI (nC (mo h)) := hw.c.1
  have hCb := hw.c.2
  have hK : h.1 MO 3 = nI (nK (mo h)) := hw.k.1
  have hKb := hw.k.2
  have hT : h.1 MO 4 = nI (nT (mo h)) := hw.t.1
  have hTb := hw.t.2
  have hF : h.1 MO 5 = nI (nF (mo h)) := hw.f.1
  have hFb := hw.f.2
  have hRc : h.1 MO 59 = nI (nR (mo h)) := hw.r.1
  have hRb := hw.r.2
  have hG : h.1 MO 60 = nI (nGf (mo h)) := hw.g.1
  have hGb := hw.g.2
  have hA : h.1 MO 70 = nI (nA (mo h)) := hw.a.1
  have hAb := hw.a.2
  have hTl : h.1 MO 1 = nI (nTl (mo h)) := hw.tl.1
  have hTlb := hw.tl.2
  intro n
  induction n with
  | zero =>
    intro s h1 h2
    refine g_iload_n (pc' := 38) dX12_wholeOf_37 rfl rfl ?_
    refine g_bipushN (n := 6) (pc' := 40) dX12_wholeOf_38 rfl (by decide) ?_
    refine g_icmp_geN (tgt := 138) (pc' := 43) dX12_wholeOf_40 rfl (by decide) (by omega) (by omega) (fun c40 => ?_) (fun c40 => ?_)
    ·
      refine g_iload_n (pc' := 139) dX12_wholeOf_138 rfl rfl ?_
      refine g_iret dX12_wholeOf_139 rfl (by decide) (by decide) ?_
      have e : s = 6 := by omega
      subst e
      exact hQ
    · exact absurd c40 (by omega)
  | succ n ih =>
    intro s h1 h2
    refine g_iload_n (pc' := 38) dX12_wholeOf_37 rfl rfl ?_
    refine g_bipushN (n := 6) (pc' := 40) dX12_wholeOf_38 rfl (by decide) ?_
    refine g_icmp_geN (tgt := 138) (pc' := 43) dX12_wholeOf_40 rfl (by decide) (by omega) (by omega) (fun c40 => ?_) (fun c40 => ?_)
    · exact absurd c40 (by omega)
    ·
      refine g_iconstN (n := 0) (pc' := 44) dX12_wholeOf_43 rfl ?_
      refine g_istore (pc' := 46) dX12_wholeOf_44 rfl (by decide) rfl ?_
      try simp only [List.set]
      refine g_iconstN (n := 0) (pc' := 47) dX12_wholeOf_46 rfl ?_
      refine g_istore (pc' := 49) dX12_wholeOf_47 rfl (by decide) rfl ?_
      try simp only [List.set]
      refine lm_wholeOf3 hok hs hw hx hk (by omega) _ hd ?_ _ 0 (Nat.zero_le _) rfl
      have hwb : whS (mo h) k s ≤ 96 := whS_le hw hx (by omega) (Nat.le_refl _)
      have hpb := (pc_n hx hk (show s < 6 by omega)).2
      have hdv := Nat.div_le_self (whS (mo h) k s) (pcN (mo h) k s)
      have hwl := whN_le (mo h) k s
      have hcl := cnt_le (sp (mo h) k) (nT (mo h))
      refine g_aload_n (pc' := 96) dX12_wholeOf_95 rfl rfl ?_
      refine g_getS (pc' := 99) (k := 13) (b := (113, 0)) dX12_wholeOf_96 rfl rfl ck_13 (by decide) fl_X12_29 rfl hs rfl ?_
      refine g_bipushN (n := 6) (pc' := 101) dX12_wholeOf_99 rfl (by decide) ?_
      refine g_iload_n (pc' := 102) dX12_wholeOf_101 rfl rfl ?_
      refine g_imulN (pc' := 103) dX12_wholeOf_102 rfl ?_
      refine g_iload_n (pc' := 104) dX12_wholeOf_103 rfl rfl ?_
      refine g_iaddN (pc' := 105) dX12_wholeOf_104 rfl ?_
      refine g_ialdN (pc' := 106) (v := nI (pcN (mo h) k s)) dX12_wholeOf_105 rfl rfl (by decide) (by omega) ((pc_n hx hk (by omega)).1) ?_
      refine g_istore (pc' := 108) dX12_wholeOf_106 rfl (by decide) rfl ?_
      try simp only [List.set]
      refine g_iload (pc' := 110) dX12_wholeOf_108 rfl rfl ?_
      refine g_if_leN (tgt := 130) (pc' := 113) dX12_wholeOf_110 rfl (by decide) (by omega) (fun c110 => ?_) (fun c110 => ?_)
      ·
        refine g_iload_n (pc' := 131) dX12_wholeOf_130 rfl rfl ?_
        refine g_istore_n (pc' := 132) dX12_wholeOf_131 rfl (by decide) rfl ?_
        try simp only [List.set]
        refine g_iincN (k := 1) (pc' := 135) dX12_wholeOf_132 rfl rfl (by decide) rfl ?_
        try simp only [List.set]
        refine g_goto (tgt := 37) dX12_wholeOf_135 (by decide) ?_
        refine G.drop 4 ?_
        refine G.drop 5 ?_
        simp only [List.set]
        have q := ih (s + 1) (by omega) (by omega)
        rw [whN_s, cif_f (fun z => by omega)] at q
        exact q
      ·
        refine g_iload (pc' := 115) dX12_wholeOf_113 rfl rfl ?_
        refine g_iload (pc' := 117) dX12_wholeOf_115 rfl rfl ?_
        refine g_idivN (pc' := 118) dX12_wholeOf_117 rfl (by omega) (by omega) (by omega) ?_
        refine g_iload_n (pc' := 119) dX12_wholeOf_118 rfl rfl ?_
        refine g_icmp_geN (tgt := 130) (pc' := 122) dX12_wholeOf_119 rfl (by decide) (by omega) (by omega) (fun c119 => ?_) (fun c119 => ?_)
        ·
          refine g_iload_n (pc' := 131) dX12_wholeOf_130 rfl rfl ?_
          refine g_istore_n (pc' := 132) dX12_wholeOf_131 rfl (by decide) rfl ?_
          try simp only [List.set]
          refine g_iincN (k := 1) (pc' := 135) dX12_wholeOf_132 rfl rfl (by decide) rfl ?_
          try simp only [List.set]
          refine g_goto (tgt := 37) dX12_wholeOf_135 (by decide) ?_
          refine G.drop 4 ?_
          refine G.drop 5 ?_
          simp only [List.set]
          have q := ih (s + 1) (by omega) (by omega)
          rw [whN_s, cif_f (fun z => by omega)] at q
          exact q
        ·
          refine g_iload (pc' := 124) dX12_wholeOf_122 rfl rfl ?_
          refine g_iload (pc' := 126) dX12_wholeOf_124 rfl rfl ?_
          refine g_idivN (pc' := 127) dX12_wholeOf_126 rfl (by omega) (by omega) (by omega) ?_
          refine g_goto (tgt := 131) dX12_wholeOf_127 (by decide) ?_
          refine g_istore_n (pc' := 132) dX12_wholeOf_131 rfl (by decide) rfl ?_
          try simp only [List.set]
          refine g_iincN (k := 1) (pc' := 135) dX12_wholeOf_132 rfl rfl (by decide) rfl ?_
          try simp only [List.set]
          refine g_goto (tgt := 37) dX12_wholeOf_135 (by decide) ?_
          refine G.drop 4 ?_
          refine G.drop 5 ?_
          simp only [List.set]
          have q := ih (s + 1) (by omega) (by omega)
          rw [whN_s, cif_t ⟨by omega, by omega⟩] at q
          exact q
set_option maxRecDepth 4000 in
theorem cm_wholeOf {E : En} (hok : EOK E) {h : Hp} (hs : Shp h.2) (hw : Wf (mo h)) (hx : Wx (mo h)) {k : Nat} (hk : k < nK (mo h)) : Fn E m_X12_wholeOf 4 [vR MO, vI (nI k)] h (vI (nI (whN (mo h) k 6))) := by
  have hNw : h.1 MO 2 = nI (nW (mo h)) := hw.w.1
  have hNwb := hw.w.2
  have hC : h.1 MO 30 = nI (nC (mo h)) := hw.c.1
  have hCb := hw.c.2
  have hK : h.1 MO 3 = nI (nK (mo h)) := hw.k.1
  have hKb := hw.k.2
  have hT : h.1 MO 4 = nI (nT (mo h)) := hw.t.1
  have hTb := hw.t.2
  have hF : h.1 MO 5 = nI (nF (mo h)) := hw.f.1
  have hFb := hw.f.2
  have hRc : h.1 MO 59 = nI (nR (mo h)) := hw.r.1
  have hRb := hw.r.2
  have hG : h.1 MO 60 = nI (nGf (mo h)) := hw.g.1
  have hGb := hw.g.2
  have hA : h.1 MO 70 = nI (nA (mo h)) := hw.a.1
  have hAb := hw.a.2
  have hTl : h.1 MO 1 = nI (nTl (mo h)) := hw.tl.1
  have hTlb := hw.tl.2
  refine Call.enter hok (by decide) (Nat.le_of_ble_eq_true rfl) ?_
  show G E m_X12_wholeOf 4 0 0 _ h 0 [some (vR MO), some (vI (nI k)), none, none, none, none] [] h 0 0
  refine g_iconstN (n := 0) (pc' := 1) dX12_wholeOf_0 rfl ?_
  refine g_istore_n (pc' := 2) dX12_wholeOf_1 rfl (by decide) rfl ?_
  try simp only [List.set]
  refine g_iconstN (n := 0) (pc' := 3) dX12_wholeOf_2 rfl ?_
  refine g_istore_n (pc' := 4) dX12_wholeOf_3 rfl (by decide) rfl ?_
  try simp only [List.set]
  refine lm_wholeOf1 hok hs hw hx hk (Nat.le_refl _) ?_ _ 0 (Nat.zero_le _) rfl
  refine g_iconstN (n := 0) (pc' := 36) dX12_wholeOf_35 rfl ?_
  refine g_istore_n (pc' := 37) dX12_wholeOf_36 rfl (by decide) rfl ?_
  try simp only [List.set]
  exact lm_wholeOf2 hok hs hw hx hk (Nat.le_refl _) ⟨rfl, rfl⟩ _ 0 (Nat.zero_le _) rfl
set_option maxRecDepth 4000 in
theorem lm_whole2 {E : En} (hok : EOK E) {h h0 : Hp} (hs : Shp h.2) (hw : Wf (mo h)) (hx : Wx (mo h)) {k : Nat} (hk : k < nK (mo h)) (x : Int32) {i : Nat} {d : Nat} (hd : 4 ≤ d) {Q : Option V → Hp → Prop} (hQ : G E m_X12_whole d 0 0 Q h0 109 [some (vR MO), some (vI (nI k)), some (vI x), some (vI (nI (whN (mo h) k 6))), some (vI (wsF (mo h) k i).1), some (vI (nI (wsF (mo h) k i).2)), some (vI (nI i)), some (vI (oI (bsF (wsP (mo h) k i) (lckN (mo h)) (nT (mo h))))), none] [] h 0 0) : ∀ n t : Nat, t ≤ nT (mo h) → nT (mo h) - t = n → G E m_X12_whole d 0 0 Q h0 49 [some (vR MO), some (vI (nI k)), some (vI x), some (vI (nI (whN (mo h) k 6))), some (vI (wsF (mo h) k i).1), some (vI (nI (wsF (mo h) k i).2)), some (vI (nI i)), some (vI (oI (bsF (wsP (mo h) k i) (lckN (mo h)) t))), some (vI (nI t))] [] (h) 0 0 := by
  have hNw : h.1 MO 2 = nI (nW (mo h)) := hw.w.1
  have hNwb := hw.w.2
  have hC : h.1 MO 30 = nI (nC (mo h)) := hw.c.1
  have hCb := hw.c.2
  have hK : h.1 MO 3 = nI (nK (mo h)) := hw.k.1
  have hKb := hw.k.2
  have hT : h.1 MO 4 = nI (nT (mo h)) := hw.t.1
  have hTb := hw.t.2
  have hF : h.1 MO 5 = nI (nF (mo h)) := hw.f.1
  have hFb := hw.f.2
  have hRc : h.1 MO 59 = nI (nR (mo h)) := hw.r.1
  have hRb := hw.r.2
  have hG : h.1 MO 60 = nI (nGf (mo h)) := hw.g.1
  have hGb := hw.g.2
  have hA : h.1 MO 70 = nI (nA (mo h)) := hw.a.1
  have hAb := hw.a.2
  have hTl : h.1 MO 1 = nI (nTl (mo h)) := hw.tl.1
  have hTlb := hw.tl.2
  intro n
  induction n with
  | zero =>
    intro t h1 h2
    refine g_iload (pc' := 51) dX12_whole_49 rfl rfl ?_
    refine g_aload_n (pc' := 52) dX12_whole_51 rfl rfl ?_
    refine g_getIv (v := nI (nT (mo h))) (pc' := 55) (k := 4) dX12_whole_52 rfl rfl ck_13 (by decide) fl_X12_211 rfl (hT) ?_
    refine g_icmp_geN (tgt := 109) (pc' := 58) dX12_whole_55 rfl (by decide) (by omega) (by omega) (fun c55 => ?_) (fun c55 => ?_)
    ·
      have e : t = nT (mo h) := by omega
      subst e
      refine G.drop 8 ?_
      simp only [List.set]
      exact hQ
    · exact absurd c55 (by omega)
  | succ n ih =>
    intro t h1 h2
    refine g_iload (pc' := 51) dX12_whole_49 rfl rfl ?_
    refine g_aload_n (pc' := 52) dX12_whole_51 rfl rfl ?_
    refine g_getIv (v := nI (nT (mo h))) (pc' := 55) (k := 4) dX12_whole_52 rfl rfl ck_13 (by decide) fl_X12_211 rfl (hT) ?_
    refine g_icmp_geN (tgt := 109) (pc' := 58) dX12_whole_55 rfl (by decide) (by omega) (by omega) (fun c55 => ?_) (fun c55 => ?_)
    · exact absurd c55 (by omega)
    ·
      refine g_aload_n (pc' := 59) dX12_whole_58 rfl rfl ?_
      refine g_iload (pc' := 61) dX12_whole_59 rfl rfl ?_
      refine g_iload_n (pc' := 62) dX12_whole_61 rfl rfl ?_
      refine g_invV (pc' := 65) (cm_isSpare hok hs hw (t := t) (k := k) (by omega) (by omega)) dX12_whole_62 rfl rfl ck_13 rfl ml_X12_510 im_X12_isSpare sl_X12_isSpare in_X12 co_X12_isSpare pd_X12_isSpare rfl (by omega) (by decide) ⟨by decide, by decide⟩ (Nat.le_of_ble_eq_true rfl) ?_
      rintro _ _ ⟨rfl, rfl⟩ -
      refine g_ifB_eq (tgt := 103) (pc' := 68) dX12_whole_65 rfl (by decide) (fun c65 => ?_) (fun c65 => ?_)
      ·
        refine g_iincN (k := 1) (pc' := 106) dX12_whole_103 rfl rfl (by decide) rfl ?_
        try simp only [List.set]
        refine g_goto (tgt := 49) dX12_whole_106 (by decide) ?_
        have q := ih (t + 1) (by omega) (by omega)
        rw [bs_skip (P := (wsP (mo h) k i)) (fun z => c65 z.1)] at q
        exact q
      ·
        refine g_iload (pc' := 70) dX12_whole_68 rfl rfl ?_
        refine g_iload (pc' := 72) dX12_whole_70 rfl rfl ?_
        refine g_invS (pc' := 75) (cm_has hok _ _) dX12_whole_72 rfl ml_X12_440 st_X12_has in_X12 co_X12_has pd_X12_has rfl (by omega) (by decide) ⟨by decide, by decide⟩ (Nat.le_of_ble_eq_true rfl) ?_
        rintro _ _ ⟨rfl, rfl⟩ -
        refine g_ifB_ne (tgt := 103) (pc' := 78) dX12_whole_75 rfl (by decide) (fun c75 => ?_) (fun c75 => ?_)
        ·
          refine g_iincN (k := 1) (pc' := 106) dX12_whole_103 rfl rfl (by decide) rfl ?_
          try simp only [List.set]
          refine g_goto (tgt := 49) dX12_whole_106 (by decide) ?_
          have q := ih (t + 1) (by omega) (by omega)
          rw [bs_skip (P := (wsP (mo h) k i)) (fun z => z.2 c75)] at q
          exact q
        ·
          refine g_iload (pc' := 80) dX12_whole_78 rfl rfl ?_
          refine g_iconst (v := -1) (pc' := 81) dX12_whole_80 rfl (by decide) ?_
          refine g_icmp_eq (tgt := 99) (pc' := 84) dX12_whole_81 rfl (by decide) (fun c81 => ?_) (fun c81 => ?_)
          ·
            refine g_iload (pc' := 101) dX12_whole_99 rfl rfl ?_
            refine g_istore (pc' := 103) dX12_whole_101 rfl (by decide) rfl ?_
            try simp only [List.set]
            refine g_iincN (k := 1) (pc' := 106) dX12_whole_103 rfl rfl (by decide) rfl ?_
            try simp only [List.set]
            refine g_goto (tgt := 49) dX12_whole_106 (by decide) ?_
            have q := ih (t + 1) (by omega) (by omega)
            rw [bs_first (P := (wsP (mo h) k i)) (oI_none (by omega) c81) ⟨c65, c75⟩] at q
            exact q
          ·
            obtain ⟨b, hb, hbt, hbP⟩ := oI_some c81
            rw [hb]
            simp only [oI]
            refine g_aload_n (pc' := 85) dX12_whole_84 rfl rfl ?_
            refine g_iload (pc' := 87) dX12_whole_85 rfl rfl ?_
            refine g_invV (pc' := 90) (cm_lackingOf hok hs hw (t := t) (by omega)) dX12_whole_87 rfl rfl ck_13 rfl ml_X12_390 im_X12_lackingOf sl_X12_lackingOf in_X12 co_X12_lackingOf pd_X12_lackingOf rfl (by omega) (by decide) ⟨by decide, by decide⟩ (Nat.le_of_ble_eq_true rfl) ?_
            rintro _ _ ⟨rfl, rfl⟩ -
            rw [(lck_n hw hx (show t < nT (mo h) by omega)).1]
            have hlk87 := (lck_n hw hx (show t < nT (mo h) by omega)).2
            refine g_aload_n (pc' := 91) dX12_whole_90 rfl rfl ?_
            refine g_iload (pc' := 93) dX12_whole_91 rfl rfl ?_
            refine g_invV (pc' := 96) (cm_lackingOf hok hs hw (t := b) (by omega)) dX12_whole_93 rfl rfl ck_13 rfl ml_X12_390 im_X12_lackingOf sl_X12_lackingOf in_X12 co_X12_lackingOf pd_X12_lackingOf rfl (by omega) (by decide) ⟨by decide, by decide⟩ (Nat.le_of_ble_eq_true rfl) ?_
            rintro _ _ ⟨rfl, rfl⟩ -
            rw [(lck_n hw hx (show b < nT (mo h) by omega)).1]
            have hlk93 := (lck_n hw hx (show b < nT (mo h) by omega)).2
            refine g_icmp_geN (tgt := 103) (pc' := 99) dX12_whole_96 rfl (by decide) (by omega) (by omega) (fun c96 => ?_) (fun c96 => ?_)
            ·
              refine g_iincN (k := 1) (pc' := 106) dX12_whole_103 rfl rfl (by decide) rfl ?_
              try simp only [List.set]
              refine g_goto (tgt := 49) dX12_whole_106 (by decide) ?_
              have q := ih (t + 1) (by omega) (by omega)
              rw [bs_more (P := (wsP (mo h) k i)) hb (by omega)] at q
              exact q
            ·
              refine g_iload (pc' := 101) dX12_whole_99 rfl rfl ?_
              refine g_istore (pc' := 103) dX12_whole_101 rfl (by decide) rfl ?_
              try simp only [List.set]
              refine g_iincN (k := 1) (pc' := 106) dX12_whole_103 rfl rfl (by decide) rfl ?_
              try simp only [List.set]
              refine g_goto (tgt := 49) dX12_whole_106 (by decide) ?_
              have q := ih (t + 1) (by omega) (by omega)
              rw [bs_less (P := (wsP (mo h) k i)) hb ⟨c65, c75⟩ (by omega)] at q
              exact q
set_option maxRecDepth 4000 in
theorem lm_whole1 {E : En} (hok : EOK E) {h h0 : Hp} (hs : Shp h.2) (hw : Wf (mo h)) (hx : Wx (mo h)) {k : Nat} (hk : k < nK (mo h)) (x : Int32) {d : Nat} (hd : 4 ≤ d) {Q : Option V → Hp → Prop} (hQ : Q (some (vI (whA (mo h) k x))) h) : ∀ n i : Nat, i ≤ whN (mo h) k 6 → whN (mo h) k 6 - i = n → G E m_X12_whole d 0 0 Q h0 37 [some (vR MO), some (vI (nI k)), some (vI x), some (vI (nI (whN (mo h) k 6))), some (vI (wsF (mo h) k i).1), some (vI (nI (wsF (mo h) k i).2)), some (vI (nI i)), none, none] [] (h) 0 0 := by
  have hNw : h.1 MO 2 = nI (nW (mo h)) := hw.w.1
  have hNwb := hw.w.2
  have hC : h.1 MO 30 = nI (nC (mo h)) := hw.c.1
  have hCb := hw.c.2
  have hK : h.1 MO 3 = nI (nK (mo h)) := hw.k.1
  have hKb := hw.k.2
  have hT : h.1 MO 4 = nI (nT (mo h)) := hw.t.1
  have hTb := hw.t.2
  have hF : h.1 MO 5 = nI (nF (mo h)) := hw.f.1
  have hFb := hw.f.2
  have hRc : h.1 MO 59 = nI (nR (mo h)) := hw.r.1
  have hRb := hw.r.2
  have hG : h.1 MO 60 = nI (nGf (mo h)) := hw.g.1
  have hGb := hw.g.2
  have hA : h.1 MO 70 = nI (nA (mo h)) := hw.a.1
  have hAb := hw.a.2
  have hTl : h.1 MO 1 = nI (nTl (mo h)) := hw.tl.1
  have hTlb := hw.tl.2
  have hwl := whN_le (mo h) k 6
  have hcl := cnt_le (sp (mo h) k) (nT (mo h))
  intro n
  induction n with
  | zero =>
    intro i h1 h2
    refine g_iload (pc' := 39) dX12_whole_37 rfl rfl ?_
    refine g_iload_n (pc' := 40) dX12_whole_39 rfl rfl ?_
    refine g_icmp_geN (tgt := 135) (pc' := 43) dX12_whole_40 rfl (by decide) (by omega) (by omega) (fun c40 => ?_) (fun c40 => ?_)
    ·
      refine g_iload_n (pc' := 136) dX12_whole_135 rfl rfl ?_
      refine g_if_ne (tgt := 143) (pc' := 139) dX12_whole_136 rfl (by decide) (fun c136 => ?_) (fun c136 => ?_)
      ·
        refine g_iload_n (pc' := 144) dX12_whole_143 rfl rfl ?_
        refine g_iconstN (n := 1) (pc' := 145) dX12_whole_144 rfl ?_
        refine g_icmp_ne (tgt := 153) (pc' := 148) dX12_whole_145 rfl (by decide) (fun c145 => ?_) (fun c145 => ?_)
        ·
          refine g_iload (pc' := 155) dX12_whole_153 rfl rfl ?_
          refine g_iret dX12_whole_155 rfl (by decide) (by decide) ?_
          have e : i = whN (mo h) k 6 := by omega
          subst e
          rw [show whA (mo h) k x = _ from (cif_f c136).trans (cif_f c145)] at hQ
          exact hQ
        ·
          refine g_iload (pc' := 150) dX12_whole_148 rfl rfl ?_
          refine g_goto (tgt := 155) dX12_whole_150 (by decide) ?_
          refine g_iret dX12_whole_155 rfl (by decide) (by decide) ?_
          have e : i = whN (mo h) k 6 := by omega
          subst e
          rw [show whA (mo h) k x = _ from (cif_f c136).trans (cif_t c145)] at hQ
          exact hQ
      ·
        refine g_iload_n (pc' := 140) dX12_whole_139 rfl rfl ?_
        refine g_goto (tgt := 155) dX12_whole_140 (by decide) ?_
        refine g_iret dX12_whole_155 rfl (by decide) (by decide) ?_
        have e : i = whN (mo h) k 6 := by omega
        subst e
        rw [show whA (mo h) k x = _ from cif_t c136] at hQ
        exact hQ
    · exact absurd c40 (by omega)
  | succ n ih =>
    intro i h1 h2
    refine g_iload (pc' := 39) dX12_whole_37 rfl rfl ?_
    refine g_iload_n (pc' := 40) dX12_whole_39 rfl rfl ?_
    refine g_icmp_geN (tgt := 135) (pc' := 43) dX12_whole_40 rfl (by decide) (by omega) (by omega) (fun c40 => ?_) (fun c40 => ?_)
    · exact absurd c40 (by omega)
    ·
      refine g_iconst (v := -1) (pc' := 44) dX12_whole_43 rfl (by decide) ?_
      refine g_istore (pc' := 46) dX12_whole_44 rfl (by decide) rfl ?_
      try simp only [List.set]
      refine g_iconstN (n := 0) (pc' := 47) dX12_whole_46 rfl ?_
      refine g_istore (pc' := 49) dX12_whole_47 rfl (by decide) rfl ?_
      try simp only [List.set]
      have ha := ws_inv hTb k i (by omega)
      obtain ⟨b, hb⟩ := ha.2.2.2 (by omega)
      obtain ⟨hb1, -⟩ := bs_some hb
      refine lm_whole2 hok hs hw hx hk x hd ?_ _ 0 (Nat.zero_le _) rfl
      rw [hb]
      simp only [oI]
      refine g_iload (pc' := 111) dX12_whole_109 rfl rfl ?_
      refine g_iconst (v := 1) (pc' := 112) dX12_whole_111 rfl (by decide) ?_
      refine g_iload (pc' := 114) dX12_whole_112 rfl rfl ?_
      refine g_ishl (pc' := 115) dX12_whole_114 rfl ?_
      refine g_ior (pc' := 116) dX12_whole_115 rfl ?_
      refine g_istore (pc' := 118) dX12_whole_116 rfl (by decide) rfl ?_
      try simp only [List.set]
      refine g_iload (pc' := 120) dX12_whole_118 rfl rfl ?_
      refine g_aload_n (pc' := 121) dX12_whole_120 rfl rfl ?_
      refine g_iload (pc' := 123) dX12_whole_121 rfl rfl ?_
      refine g_invV (pc' := 126) (cm_lackingOf hok hs hw (t := b) (by omega)) dX12_whole_123 rfl rfl ck_13 rfl ml_X12_390 im_X12_lackingOf sl_X12_lackingOf in_X12 co_X12_lackingOf pd_X12_lackingOf rfl (by omega) (by decide) ⟨by decide, by decide⟩ (Nat.le_of_ble_eq_true rfl) ?_
      rintro _ _ ⟨rfl, rfl⟩ -
      rw [(lck_n hw hx (show b < nT (mo h) by omega)).1]
      have hlk123 := (lck_n hw hx (show b < nT (mo h) by omega)).2
      refine g_iaddN (pc' := 127) dX12_whole_126 rfl ?_
      refine g_istore (pc' := 129) dX12_whole_127 rfl (by decide) rfl ?_
      try simp only [List.set]
      refine g_iincN (k := 1) (pc' := 132) dX12_whole_129 rfl rfl (by decide) rfl ?_
      try simp only [List.set]
      refine g_goto (tgt := 37) dX12_whole_132 (by decide) ?_
      refine G.drop 7 ?_
      simp only [List.set]
      have q := ih (i + 1) (by omega) (by omega)
      rw [ws_some hb] at q
      exact q
set_option maxRecDepth 4000 in
theorem cm_whole {E : En} (hok : EOK E) {h : Hp} (hs : Shp h.2) (hw : Wf (mo h)) (hx : Wx (mo h)) (k0 : Int32) (x : Int32) : Call E m_X12_whole 5 0 0 [vR MO, vI k0, vI x] h (fun r h' => r = some (vI (sWhole (mo h) k0 x).1) ∧ mo h' = (sWhole (mo h) k0 x).2 ∧ Mk h h') := by
  have hNw : h.1 MO 2 = nI (nW (mo h)) := hw.w.1
  have hNwb := hw.w.2
  have hC : h.1 MO 30 = nI (nC (mo h)) := hw.c.1
  have hCb := hw.c.2
  have hK : h.1 MO 3 = nI (nK (mo h)) := hw.k.1
  have hKb := hw.k.2
  have hT : h.1 MO 4 = nI (nT (mo h)) := hw.t.1
  have hTb := hw.t.2
  have hF : h.1 MO 5 = nI (nF (mo h)) := hw.f.1
  have hFb := hw.f.2
  have hRc : h.1 MO 59 = nI (nR (mo h)) := hw.r.1
  have hRb := hw.r.2
  have hG : h.1 MO 60 = nI (nGf (mo h)) := hw.g.1
  have hGb := hw.g.2
  have hA : h.1 MO 70 = nI (nA (mo h)) := hw.a.1
  have hAb := hw.a.2
  have hTl : h.1 MO 1 = nI (nTl (mo h)) := hw.tl.1
  have hTlb := hw.tl.2
  refine Call.enter hok (by decide) (Nat.le_of_ble_eq_true rfl) ?_
  show G E m_X12_whole 5 0 0 _ h 0 [some (vR MO), some (vI k0), some (vI x), none, none, none, none, none, none] [] h 0 0
  refine g_aload_n (pc' := 1) dX12_whole_0 rfl rfl ?_
  refine g_iload_n (pc' := 2) dX12_whole_1 rfl rfl ?_
  refine g_invV (pc' := 5) (cm_isKind hok hw _) dX12_whole_2 rfl rfl ck_13 rfl ml_X12_230 im_X12_isKind sl_X12_isKind in_X12 co_X12_isKind pd_X12_isKind rfl (by omega) (by decide) ⟨by decide, by decide⟩ (Nat.le_of_ble_eq_true rfl) ?_
  rintro _ _ ⟨rfl, rfl⟩ -
  refine g_ifB_eq (tgt := 20) (pc' := 8) dX12_whole_5 rfl (by decide) (fun c5 => ?_) (fun c5 => ?_)
  ·
    refine g_iconst (v := -1) (pc' := 21) dX12_whole_20 rfl (by decide) ?_
    refine g_iret dX12_whole_21 rfl (by decide) (by decide) ?_
    have e : sWhole (mo h) k0 x = (-1, mo h) := cif_f (fun z => c5 z.1)
    rw [e]
    exact ⟨rfl, rfl, Mk.rf h⟩
  ·
    have k5 := c5
    obtain ⟨k, hk, rfl⟩ := k5
    refine g_iload_n (pc' := 9) dX12_whole_8 rfl rfl ?_
    refine g_i2l (pc' := 10) dX12_whole_9 rfl ?_
    refine g_lconst (v := 0) (pc' := 11) dX12_whole_10 rfl rfl ?_
    refine g_ldc2 (pc' := 14) dX12_whole_11 rfl kc_X12_513 ?_
    refine g_invS (pc' := 17) (c_liesI hok _ (0) (2) rfl (by decide) (by decide)) dX12_whole_14 rfl ml_X12_203 st_X12_lies in_X12 co_X12_lies pd_X12_lies rfl (by omega) (by decide) ⟨by decide, by decide⟩ (Nat.le_of_ble_eq_true rfl) ?_
    rintro _ _ ⟨rfl, rfl⟩ -
    refine g_ifB_ne (tgt := 22) (pc' := 20) dX12_whole_17 rfl (by decide) (fun c17 => ?_) (fun c17 => ?_)
    ·
      refine g_aload_n (pc' := 23) dX12_whole_22 rfl rfl ?_
      refine g_iload_n (pc' := 24) dX12_whole_23 rfl rfl ?_
      refine g_invV (pc' := 27) (cm_wholeOf hok hs hw hx (k := k) (by omega)) dX12_whole_24 rfl rfl ck_13 rfl ml_X12_515 im_X12_wholeOf sl_X12_wholeOf in_X12 co_X12_wholeOf pd_X12_wholeOf rfl (by omega) (by decide) ⟨by decide, by decide⟩ (Nat.le_of_ble_eq_true rfl) ?_
      rintro _ _ ⟨rfl, rfl⟩ -
      refine g_istore_n (pc' := 28) dX12_whole_27 rfl (by decide) rfl ?_
      try simp only [List.set]
      refine g_iconst (v := 0) (pc' := 29) dX12_whole_28 rfl (by decide) ?_
      refine g_istore (pc' := 31) dX12_whole_29 rfl (by decide) rfl ?_
      try simp only [List.set]
      refine g_iconstN (n := 0) (pc' := 32) dX12_whole_31 rfl ?_
      refine g_istore (pc' := 34) dX12_whole_32 rfl (by decide) rfl ?_
      try simp only [List.set]
      refine g_iconstN (n := 0) (pc' := 35) dX12_whole_34 rfl ?_
      refine g_istore (pc' := 37) dX12_whole_35 rfl (by decide) rfl ?_
      try simp only [List.set]
      have e : sWhole (mo h) (nI k) x = (whA (mo h) k x, mo h) := by unfold sWhole; simp only [nI_clamp (show k < 2 ^ 31 by omega)]; exact cif_t ⟨c5, c17⟩
      rw [e]
      exact lm_whole1 hok hs hw hx hk x (by decide) ⟨rfl, rfl, Mk.rf h⟩ _ 0 (Nat.zero_le _) rfl
    ·
      refine g_iconst (v := -1) (pc' := 21) dX12_whole_20 rfl (by decide) ?_
      refine g_iret dX12_whole_21 rfl (by decide) (by decide) ?_
      have e : sWhole (mo h) (nI k) x = (-1, mo h) := cif_f (fun z => c17 z.2)
      rw [e]
      exact ⟨rfl, rfl, Mk.rf h⟩
