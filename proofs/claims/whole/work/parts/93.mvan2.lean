set_option maxRecDepth 4000 in
theorem lm_vC {E : En} (hok : EOK E) {hb h0 : Hp} {m : St} (hsb : Shp hb.2) (hwm : Wf m) {R : Rm} (hRm : WR m R) {v p2_ p3_ : Int32} {d : Nat} (hd : 7 ≤ d) {Q : Option V → Hp → Prop} (hQ : ∀ h, mo h = m → Mk hb h → CM m R v (nF m) h → G E m_X12_van d 0 0 Q h0 157 [some (vR MO), some (vI v), some (vI p2_), some (vI p3_), some (vI (orr (fun g => cdM m R v g (nT m)) (nF m))), none, none, none, none] [] h 0 0) : ∀ c f (h : Hp), f ≤ nF m → nF m - f = c → mo h = m → Mk hb h → CM m R v f h → G E m_X12_van d 0 0 Q h0 42 [some (vR MO), some (vI v), some (vI p2_), some (vI p3_), some (vI (orr (fun g => cdM m R v g (nT m)) f)), some (vI (nI f)), none, none, none] [] h 0 0 := by
  intro c
  induction c with
  | zero =>
    intro f h g1 g2 hm mk cm
    subst hm
    have hs : Shp h.2 := by rw [mk.1]; exact hsb
    have hw : Wf (mo h) := hwm
    have hR : WR (mo h) R := hRm
    have hNw : h.1 MO 2 = nI (nW (mo h)) := hw.w.1
    have hNwb := hw.w.2
    have hC : h.1 MO 30 = nI (nC (mo h)) := hw.c.1
    have hCb := hw.c.2
    have hK : h.1 MO 3 = nI (nK (mo h)) := hw.k.1
    have hKb := hw.k.2
    have hT : h.1 MO 4 = nI (nT (mo h)) := hw.t.1
    have hTb := hw.t.2
    have hF : h.1 MO 5 = nI (nF (mo h)) := hw.f.1
    have hFb := hw.f.2
    have hRc : h.1 MO 59 = nI (nR (mo h)) := hw.r.1
    have hRb := hw.r.2
    have hG : h.1 MO 60 = nI (nGf (mo h)) := hw.g.1
    have hGb := hw.g.2
    have hA : h.1 MO 70 = nI (nA (mo h)) := hw.a.1
    have hAb := hw.a.2
    have hTl : h.1 MO 1 = nI (nTl (mo h)) := hw.tl.1
    have hTlb := hw.tl.2
    refine g_iload (pc' := 44) dX12_van_42 rfl rfl ?_
    refine g_aload_n (pc' := 45) dX12_van_44 rfl rfl ?_
    refine g_getIv (v := nI (nF (mo h))) (pc' := 48) (k := 5) dX12_van_45 rfl rfl ck_13 (by decide) fl_X12_214 rfl (hF) ?_
    refine g_icmp_geN (tgt := 157) (pc' := 51) dX12_van_48 rfl (by decide) (by omega) (by omega) (fun c48 => ?_) (fun c48 => ?_)
    ·
      have e : f = nF (mo h) := by omega
      subst e
      refine G.drop 5 ?_
      simp only [List.set]
      exact hQ h rfl mk cm
    · exact absurd c48 (by omega)
  | succ c ih =>
    intro f h g1 g2 hm mk cm
    subst hm
    have hs : Shp h.2 := by rw [mk.1]; exact hsb
    have hw : Wf (mo h) := hwm
    have hR : WR (mo h) R := hRm
    have hNw : h.1 MO 2 = nI (nW (mo h)) := hw.w.1
    have hNwb := hw.w.2
    have hC : h.1 MO 30 = nI (nC (mo h)) := hw.c.1
    have hCb := hw.c.2
    have hK : h.1 MO 3 = nI (nK (mo h)) := hw.k.1
    have hKb := hw.k.2
    have hT : h.1 MO 4 = nI (nT (mo h)) := hw.t.1
    have hTb := hw.t.2
    have hF : h.1 MO 5 = nI (nF (mo h)) := hw.f.1
    have hFb := hw.f.2
    have hRc : h.1 MO 59 = nI (nR (mo h)) := hw.r.1
    have hRb := hw.r.2
    have hG : h.1 MO 60 = nI (nGf (mo h)) := hw.g.1
    have hGb := hw.g.2
    have hA : h.1 MO 70 = nI (nA (mo h)) := hw.a.1
    have hAb := hw.a.2
    have hTl : h.1 MO 1 = nI (nTl (mo h)) := hw.tl.1
    have hTlb := hw.tl.2
    refine g_iload (pc' := 44) dX12_van_42 rfl rfl ?_
    refine g_aload_n (pc' := 45) dX12_van_44 rfl rfl ?_
    refine g_getIv (v := nI (nF (mo h))) (pc' := 48) (k := 5) dX12_van_45 rfl rfl ck_13 (by decide) fl_X12_214 rfl (hF) ?_
    refine g_icmp_geN (tgt := 157) (pc' := 51) dX12_van_48 rfl (by decide) (by omega) (by omega) (fun c48 => ?_) (fun c48 => ?_)
    · exact absurd c48 (by omega)
    ·
      refine g_aload_n (pc' := 52) dX12_van_51 rfl rfl ?_
      refine g_getS (pc' := 55) (k := 90) (b := (190, 0)) dX12_van_52 rfl rfl ck_13 (by decide) fl_X12_195 rfl hs rfl ?_
      refine g_iload (pc' := 57) dX12_van_55 rfl rfl ?_
      refine g_iconstN (n := 0) (pc' := 58) dX12_van_57 rfl ?_
      refine g_iastN (pc' := 59) dX12_van_58 rfl rfl (by decide) (by omega) ?_
      refine g_iconstN (n := 0) (pc' := 60) dX12_van_59 rfl ?_
      refine g_istore (pc' := 62) dX12_van_60 rfl (by decide) rfl ?_
      try simp only [List.set]
      refine lm_vD (m := mo h) hok hsb hw hR hd (show f < nF (mo h) by omega) (fun h3 m3 k3 c3 => ?_) _ 0 (wI h (190, 0) f (nI 0)) (Nat.zero_le _) rfl (mo_190 _ _ _) (mk.w (Or.inr (by decide))) (cm.w _) (by rw [wI_at, if_pos ⟨rfl, rfl⟩]; rfl)
      have hs3 : Shp h3.2 := by rw [k3.1]; exact hsb
      have hs := hs3
      refine g_iload (pc' := 141) dX12_van_139 rfl rfl ?_
      refine g_aload_n (pc' := 142) dX12_van_141 rfl rfl ?_
      refine g_getS (pc' := 145) (k := 90) (b := (190, 0)) dX12_van_142 rfl rfl ck_13 (by decide) fl_X12_195 rfl hs rfl ?_
      refine g_iload (pc' := 147) dX12_van_145 rfl rfl ?_
      refine g_ialdN (pc' := 148) (v := cdM (mo h) R v f (nT (mo h))) dX12_van_147 rfl rfl (by decide) (by omega) (c3 f (Nat.lt_succ_self f)) ?_
      refine g_ior (pc' := 149) dX12_van_148 rfl ?_
      refine g_istore (pc' := 151) dX12_van_149 rfl (by decide) rfl ?_
      try simp only [List.set]
      refine g_iincN (k := 1) (pc' := 154) dX12_van_151 rfl rfl (by decide) rfl ?_
      try simp only [List.set]
      refine g_goto (tgt := 42) dX12_van_154 (by decide) ?_
      exact ih (f + 1) h3 (by omega) (by omega) m3 k3 c3
