noncomputable def cdM (m : St) (R : Rm) (v : Int32) (f n : Nat) : Int32 := orr (fun t => cif (vW0 m R v t f) ((1 : Int32) <<< (nI t &&& 31)) 0) n
theorem bt_cdM {m : St} {R : Rm} {v : Int32} {f n t : Nat} (hn : n ≤ 16) : bt (cdM m R v f n) t = true ↔ t < n ∧ vW0 m R v t f := by
  unfold cdM
  rw [bt_orr]
  constructor
  · rintro ⟨i, hi, q⟩
    obtain ⟨q1, q2⟩ := bt_cif.mp q
    rw [bt_one (show i < 32 by omega), decide_eq_true_eq] at q2
    subst q2
    exact ⟨hi, q1⟩
  · rintro ⟨h1, h2⟩
    exact ⟨t, h1, bt_cif.mpr ⟨h2, by rw [bt_one (show t < 32 by omega)]; exact decide_eq_true rfl⟩⟩
theorem cdM_z {m : St} {R : Rm} {v : Int32} {f n : Nat} (hn : n ≤ 16) (h : ¬ m 128 f = v) : cdM m R v f n = 0 := bt_eq fun j _ => by
  rw [bt_cdM hn, bt_0]
  exact ⟨fun z => absurd z.2.1 h, fun z => absurd z Bool.false_ne_true⟩
def CM (m : St) (R : Rm) (v : Int32) (f : Nat) (h : Hp) : Prop := ∀ g, g < f → h.1 (190, 0) g = cdM m R v g (nT m)
theorem mo_190 (h : Hp) (j : Nat) (x : Int32) : mo (wI h (190, 0) j x) = mo h := mo_same (fun b q => wI_off _ _ _ _ b (fun z => by rw [z] at q; exact q rfl))
theorem CM.w {m : St} {R : Rm} {v : Int32} {f : Nat} {h : Hp} (k : CM m R v f h) (x : Int32) : CM m R v f (wI h (190, 0) f x) := fun g hg => by
  rw [wI_at, if_neg (fun q => by have := q.2; omega)]
  exact k g hg
theorem CM.s {m : St} {R : Rm} {v : Int32} {f : Nat} {h : Hp} (k : CM m R v f h) (e : h.1 (190, 0) f = cdM m R v f (nT m)) : CM m R v (f + 1) h := fun g hg => by
  by_cases z : g = f
  · rw [z]; exact e
  · exact k g (by omega)
set_option maxRecDepth 4000 in
theorem lm_vD {E : En} (hok : EOK E) {hb h0 : Hp} {m : St} (hsb : Shp hb.2) (hwm : Wf m) {R : Rm} (hRm : WR m R) {v p2_ p3_ : Int32} {d : Nat} (hd : 7 ≤ d) {Q : Option V → Hp → Prop} {any : Int32} {f : Nat} (hfm : f < nF m) (hQ : ∀ h, mo h = m → Mk hb h → CM m R v (f + 1) h → G E m_X12_van d 0 0 Q h0 139 [some (vR MO), some (vI v), some (vI p2_), some (vI p3_), some (vI any), some (vI (nI f)), none, none, none] [] h 0 0) : ∀ c t (h : Hp), t ≤ nT m → nT m - t = c → mo h = m → Mk hb h → CM m R v f h → h.1 (190, 0) f = cdM m R v f t → G E m_X12_van d 0 0 Q h0 62 [some (vR MO), some (vI v), some (vI p2_), some (vI p3_), some (vI any), some (vI (nI f)), some (vI (nI t)), none, none] [] h 0 0 := by
  intro c
  induction c with
  | zero =>
    intro t h g1 g2 hm mk cm ce
    subst hm
    have hs : Shp h.2 := by rw [mk.1]; exact hsb
    have hw : Wf (mo h) := hwm
    have hR : WR (mo h) R := hRm
    have hfl := hfm
    have hNw : h.1 MO 2 = nI (nW (mo h)) := hw.w.1
    have hNwb := hw.w.2
    have hC : h.1 MO 30 = nI (nC (mo h)) := hw.c.1
    have hCb := hw.c.2
    have hK : h.1 MO 3 = nI (nK (mo h)) := hw.k.1
    have hKb := hw.k.2
    have hT : h.1 MO 4 = nI (nT (mo h)) := hw.t.1
    have hTb := hw.t.2
    have hF : h.1 MO 5 = nI (nF (mo h)) := hw.f.1
    have hFb := hw.f.2
    have hRc : h.1 MO 59 = nI (nR (mo h)) := hw.r.1
    have hRb := hw.r.2
    have hG : h.1 MO 60 = nI (nGf (mo h)) := hw.g.1
    have hGb := hw.g.2
    have hA : h.1 MO 70 = nI (nA (mo h)) := hw.a.1
    have hAb := hw.a.2
    have hTl : h.1 MO 1 = nI (nTl (mo h)) := hw.tl.1
    have hTlb := hw.tl.2
    refine g_iload (pc' := 64) dX12_van_62 rfl rfl ?_
    refine g_aload_n (pc' := 65) dX12_van_64 rfl rfl ?_
    refine g_getIv (v := nI (nT (mo h))) (pc' := 68) (k := 4) dX12_van_65 rfl rfl ck_13 (by decide) fl_X12_211 rfl (hT) ?_
    refine g_icmp_geN (tgt := 139) (pc' := 71) dX12_van_68 rfl (by decide) (by omega) (by omega) (fun c68 => ?_) (fun c68 => ?_)
    ·
      have e : t = nT (mo h) := by omega
      subst e
      refine G.drop 6 ?_
      simp only [List.set]
      exact hQ h rfl mk (cm.s ce)
    · exact absurd c68 (by omega)
  | succ c ih =>
    intro t h g1 g2 hm mk cm ce
    subst hm
    have hs : Shp h.2 := by rw [mk.1]; exact hsb
    have hw : Wf (mo h) := hwm
    have hR : WR (mo h) R := hRm
    have hfl := hfm
    have hNw : h.1 MO 2 = nI (nW (mo h)) := hw.w.1
    have hNwb := hw.w.2
    have hC : h.1 MO 30 = nI (nC (mo h)) := hw.c.1
    have hCb := hw.c.2
    have hK : h.1 MO 3 = nI (nK (mo h)) := hw.k.1
    have hKb := hw.k.2
    have hT : h.1 MO 4 = nI (nT (mo h)) := hw.t.1
    have hTb := hw.t.2
    have hF : h.1 MO 5 = nI (nF (mo h)) := hw.f.1
    have hFb := hw.f.2
    have hRc : h.1 MO 59 = nI (nR (mo h)) := hw.r.1
    have hRb := hw.r.2
    have hG : h.1 MO 60 = nI (nGf (mo h)) := hw.g.1
    have hGb := hw.g.2
    have hA : h.1 MO 70 = nI (nA (mo h)) := hw.a.1
    have hAb := hw.a.2
    have hTl : h.1 MO 1 = nI (nTl (mo h)) := hw.tl.1
    have hTlb := hw.tl.2
    have ht : t < nT (mo h) := by omega
    have hkd := (hw.kd ht).2
    refine g_iload (pc' := 64) dX12_van_62 rfl rfl ?_
    refine g_aload_n (pc' := 65) dX12_van_64 rfl rfl ?_
    refine g_getIv (v := nI (nT (mo h))) (pc' := 68) (k := 4) dX12_van_65 rfl rfl ck_13 (by decide) fl_X12_211 rfl (hT) ?_
    refine g_icmp_geN (tgt := 139) (pc' := 71) dX12_van_68 rfl (by decide) (by omega) (by omega) (fun c68 => ?_) (fun c68 => ?_)
    · exact absurd c68 (by omega)
    ·
      refine g_aload_n (pc' := 72) dX12_van_71 rfl rfl ?_
      refine g_getS (pc' := 75) (k := 28) (b := (128, 0)) dX12_van_72 rfl rfl ck_13 (by decide) fl_X12_75 rfl hs rfl ?_
      refine g_iload (pc' := 77) dX12_van_75 rfl rfl ?_
      refine g_ialdN (pc' := 78) (v := mo h 128 f) dX12_van_77 rfl rfl (by decide) (by omega) (rfl) ?_
      refine g_iload_n (pc' := 79) dX12_van_78 rfl rfl ?_
      refine g_icmp_ne (tgt := 139) (pc' := 82) dX12_van_79 rfl (by decide) (fun c79 => ?_) (fun c79 => ?_)
      ·
        refine G.drop 6 ?_
        simp only [List.set]
        refine hQ h rfl mk (cm.s ?_)
        rw [ce, cdM_z (by omega) c79, cdM_z (by omega) c79]
      ·
        refine g_aload_n (pc' := 83) dX12_van_82 rfl rfl ?_
        refine g_getS (pc' := 86) (k := 90) (b := (190, 0)) dX12_van_83 rfl rfl ck_13 (by decide) fl_X12_195 rfl hs rfl ?_
        refine g_iload (pc' := 88) dX12_van_86 rfl rfl ?_
        refine g_dup2 (pc' := 89) dX12_van_88 rfl rfl rfl ?_
        refine g_ialdN (pc' := 90) (v := cdM (mo h) R v f t) dX12_van_89 rfl rfl (by decide) (by omega) (ce) ?_
        refine g_aload_n (pc' := 91) dX12_van_90 rfl rfl ?_
        refine g_getS (pc' := 94) (k := 86) (b := (186, 0)) dX12_van_91 rfl rfl ck_13 (by decide) fl_X12_183 rfl hs rfl ?_
        refine g_bipushN (n := 8) (pc' := 96) dX12_van_94 rfl (by decide) ?_
        refine g_iload (pc' := 98) dX12_van_96 rfl rfl ?_
        refine g_imulN (pc' := 99) dX12_van_98 rfl ?_
        refine g_aload_n (pc' := 100) dX12_van_99 rfl rfl ?_
        refine g_getS (pc' := 103) (k := 15) (b := (115, 0)) dX12_van_100 rfl rfl ck_13 (by decide) fl_X12_35 rfl hs rfl ?_
        refine g_iload (pc' := 105) dX12_van_103 rfl rfl ?_
        refine g_ialdN (pc' := 106) (v := nI (kd (mo h) t)) dX12_van_105 rfl rfl (by decide) (by omega) ((hw.kd ht).1) ?_
        refine g_iaddN (pc' := 107) dX12_van_106 rfl ?_
        refine g_ialdN (pc' := 108) (v := mo h 186 (8 * f + kd (mo h) t)) dX12_van_107 rfl rfl (by decide) (by omega) (rfl) ?_
        refine g_iconst (v := -1) (pc' := 109) dX12_van_108 rfl (by decide) ?_
        refine g_icmp_eq (tgt := 130) (pc' := 112) dX12_van_109 rfl (by decide) (fun c109 => ?_) (fun c109 => ?_)
        ·
          refine g_iconst (v := 0) (pc' := 131) dX12_van_130 rfl (by decide) ?_
          refine g_ior (pc' := 132) dX12_van_131 rfl ?_
          refine g_iastN (pc' := 133) dX12_van_132 rfl rfl (by decide) (by omega) ?_
          refine g_iincN (k := 1) (pc' := 136) dX12_van_133 rfl rfl (by decide) rfl ?_
          try simp only [List.set]
          refine g_goto (tgt := 62) dX12_van_136 (by decide) ?_
          refine ih (t + 1) _ (by omega) (by omega) (mo_190 _ _ _) (mk.w (Or.inr (by decide))) (cm.w _) ?_
          rw [wI_at, if_pos ⟨rfl, rfl⟩]
          exact (congrArg (fun z => cdM (mo h) R v f t ||| z) (cif_f (P := vW0 (mo h) R v t f) (fun z => z.2.1 c109))).symm
        ·
          refine g_aload_n (pc' := 113) dX12_van_112 rfl rfl ?_
          refine g_iload (pc' := 115) dX12_van_113 rfl rfl ?_
          refine g_iload (pc' := 117) dX12_van_115 rfl rfl ?_
          refine g_invV (pc' := 120) (cm_notForV hok hs hw hR (t := t) (f := f) (by omega) (by omega)) dX12_van_117 rfl rfl ck_13 rfl ml_X12_468 im_X12_notFor sl_X12_notFor in_X12 co_X12_notFor pd_X12_notFor rfl (by omega) (by decide) ⟨by decide, by decide⟩ (Nat.le_of_ble_eq_true rfl) ?_
          rintro _ h1 ⟨rfl, e1, k1, z1⟩ -
          have hn8 := ntF_lt (mo h) R t f
          have hs1 : Shp h1.2 := by rw [k1.1]; exact hs
          refine g_if_neN (tgt := 130) (pc' := 123) dX12_van_120 rfl (by decide) (by omega) (fun c120 => ?_) (fun c120 => ?_)
          ·
            refine g_iconst (v := 0) (pc' := 131) dX12_van_130 rfl (by decide) ?_
            refine g_ior (pc' := 132) dX12_van_131 rfl ?_
            refine g_iastN (pc' := 133) dX12_van_132 rfl rfl (by decide) (by omega) ?_
            refine g_iincN (k := 1) (pc' := 136) dX12_van_133 rfl rfl (by decide) rfl ?_
            try simp only [List.set]
            refine g_goto (tgt := 62) dX12_van_136 (by decide) ?_
            have cm1 : CM (mo h) R v f h1 := fun g hg => by rw [z1]; exact cm g hg
            refine ih (t + 1) _ (by omega) (by omega) ((mo_190 _ _ _).trans e1) ((mk.tr k1).w (Or.inr (by decide))) (cm1.w _) ?_
            rw [wI_at, if_pos ⟨rfl, rfl⟩]
            exact (congrArg (fun z => cdM (mo h) R v f t ||| z) (cif_f (P := vW0 (mo h) R v t f) (fun z => c120 z.2.2))).symm
          ·
            refine g_iconst (v := 1) (pc' := 124) dX12_van_123 rfl (by decide) ?_
            refine g_iload (pc' := 126) dX12_van_124 rfl rfl ?_
            refine g_ishl (pc' := 127) dX12_van_126 rfl ?_
            refine g_goto (tgt := 131) dX12_van_127 (by decide) ?_
            refine g_ior (pc' := 132) dX12_van_131 rfl ?_
            refine g_iastN (pc' := 133) dX12_van_132 rfl rfl (by decide) (by omega) ?_
            refine g_iincN (k := 1) (pc' := 136) dX12_van_133 rfl rfl (by decide) rfl ?_
            try simp only [List.set]
            refine g_goto (tgt := 62) dX12_van_136 (by decide) ?_
            have cm1 : CM (mo h) R v f h1 := fun g hg => by rw [z1]; exact cm g hg
            refine ih (t + 1) _ (by omega) (by omega) ((mo_190 _ _ _).trans e1) ((mk.tr k1).w (Or.inr (by decide))) (cm1.w _) ?_
            rw [wI_at, if_pos ⟨rfl, rfl⟩]
            exact (congrArg (fun z => cdM (mo h) R v f t ||| z) (cif_t (P := vW0 (mo h) R v t f) ⟨c79, c109, c120⟩)).symm
