/-- the family that has a toy -/
def hl (m : St) (t : Nat) : Nat := (m 119 t).toNatClampNeg
theorem Wx.hl {m : St} (w : Wx m) {t : Nat} (ht : t < nT m) (q : m 118 t = 1) (hF : nF m ≤ 10) : m 119 t = nI (hl m t) ∧ hl m t < nF m := by
  obtain ⟨f, hf, e⟩ := (w.ho t ht).2 q
  show m 119 t = nI (m 119 t).toNatClampNeg ∧ (m 119 t).toNatClampNeg < nF m
  rw [e, nI_clamp (by omega)]
  exact ⟨rfl, hf⟩
noncomputable def lostA (m : St) (R : Rm) (t : Nat) : Int32 := sm (fun s => m 125 (6 * t + s)) 6 * tlF m R (envT m t (hl m t) 0) (nI 112) (nI 0) 100000 (nI 0) (nC m) 0
noncomputable def lostS (m : St) (t : Nat) (a : Int32) : St := cmsS (wrtS (stU m 129 (hl m t) (m 129 (hl m t) + a)) (nA m) (nI t) (nI 20)) t (nI 2)
noncomputable def sLost (m : St) (R : Rm) (t0 : Int32) : Int32 × St := cif ((∃ j : Nat, j < nT m ∧ t0 = nI j) ∧ m 118 t0.toNatClampNeg = 1) (lostA m R t0.toNatClampNeg, lostS m t0.toNatClampNeg (lostA m R t0.toNatClampNeg)) (-1, m)
set_option maxRecDepth 4000 in
theorem lm_lost {E : En} (hok : EOK E) {h h0 : Hp} (hs : Shp h.2) (hw : Wf (mo h)) {R : Rm} (hR : WR (mo h) R) {t : Nat} (ht : t < nT (mo h)) (hf : hl (mo h) t < nF (mo h)) (e19 : mo h 119 t = nI (hl (mo h) t)) {d : Nat} (hd : 6 ≤ d) {Q : Option V → Hp → Prop} (hQ : ∀ h', mo h' = lostS (mo h) t (lostA (mo h) R t) → Mk h h' → Q (some (vI (lostA (mo h) R t))) h') : ∀ n s : Nat, s ≤ 6 → 6 - s = n → G E m_X12_lost d 0 0 Q h0 24 [some (vR MO), some (vI (nI t)), some (vI (sm (fun s => mo h 125 (6 * t + s)) s)), some (vI (nI s)), none] [] (h) 0 0 := by
  have hNw : h.1 MO 2 = nI (nW (mo h)) := hw.w.1
  have hNwb := hw.w.2
  have hC : h.1 MO 30 = nI (nC (mo h)) := hw.c.1
  have hCb := hw.c.2
  have hK : h.1 MO 3 = nI (nK (mo h)) := hw.k.1
  have hKb := hw.k.2
  have hT : h.1 MO 4 = nI (nT (mo h)) := hw.t.1
  have hTb := hw.t.2
  have hF : h.1 MO 5 = nI (nF (mo h)) := hw.f.1
  have hFb := hw.f.2
  have hRc : h.1 MO 59 = nI (nR (mo h)) := hw.r.1
  have hRb := hw.r.2
  have hG : h.1 MO 60 = nI (nGf (mo h)) := hw.g.1
  have hGb := hw.g.2
  have hA : h.1 MO 70 = nI (nA (mo h)) := hw.a.1
  have hAb := hw.a.2
  have hTl : h.1 MO 1 = nI (nTl (mo h)) := hw.tl.1
  have hTlb := hw.tl.2
  have hkd := (hw.kd ht).2
  intro n
  induction n with
  | zero =>
    intro s h1 h2
    refine g_iload_n (pc' := 25) dX12_lost_24 rfl rfl ?_
    refine g_bipushN (n := 6) (pc' := 27) dX12_lost_25 rfl (by decide) ?_
    refine g_icmp_geN (tgt := 50) (pc' := 30) dX12_lost_27 rfl (by decide) (by omega) (by omega) (fun c27 => ?_) (fun c27 => ?_)
    ·
      refine g_aload_n (pc' := 51) dX12_lost_50 rfl rfl ?_
      refine g_getS (pc' := 54) (k := 19) (b := (119, 0)) dX12_lost_51 rfl rfl ck_13 (by decide) fl_X12_47 rfl hs rfl ?_
      refine g_iload_n (pc' := 55) dX12_lost_54 rfl rfl ?_
      refine g_ialdN (pc' := 56) (v := nI (hl (mo h) t)) dX12_lost_55 rfl rfl (by decide) (by omega) (e19) ?_
      refine g_istore_n (pc' := 57) dX12_lost_56 rfl (by decide) rfl ?_
      try simp only [List.set]
      refine g_aload_n (pc' := 58) dX12_lost_57 rfl rfl ?_
      refine g_aload_n (pc' := 59) dX12_lost_58 rfl rfl ?_
      refine g_getS (pc' := 62) (k := 15) (b := (115, 0)) dX12_lost_59 rfl rfl ck_13 (by decide) fl_X12_35 rfl hs rfl ?_
      refine g_iload_n (pc' := 63) dX12_lost_62 rfl rfl ?_
      refine g_ialdN (pc' := 64) (v := nI (kd (mo h) t)) dX12_lost_63 rfl rfl (by decide) (by omega) ((hw.kd ht).1) ?_
      refine g_iload_n (pc' := 65) dX12_lost_64 rfl rfl ?_
      refine g_iload_n (pc' := 66) dX12_lost_65 rfl rfl ?_
      refine g_iconstN (n := 0) (pc' := 67) dX12_lost_66 rfl ?_
      refine g_invV (pc' := 70) (cm_stands hok hs _ _ _ _) dX12_lost_67 rfl rfl ck_13 rfl ml_X12_458 im_X12_stands sl_X12_stands in_X12 co_X12_stands pd_X12_stands rfl (by omega) (by decide) ⟨by decide, by decide⟩ (Nat.le_of_ble_eq_true rfl) ?_
      rintro _ _ ⟨rfl, rfl⟩ -
      have hq1 := Hq_std hs (kd (mo h) t) (nI t) (hl (mo h) t) 0
      refine g_iload_n (pc' := 71) dX12_lost_70 rfl rfl ?_
      refine g_aload_n (pc' := 72) dX12_lost_71 rfl rfl ?_
      refine g_bipushN (n := 112) (pc' := 74) dX12_lost_72 rfl (by decide) ?_
      refine g_iconstN (n := 0) (pc' := 75) dX12_lost_74 rfl ?_
      refine g_ldcw (pc' := 78) dX12_lost_75 rfl kc_X12_482 ?_
      refine g_iconstN (n := 0) (pc' := 79) dX12_lost_78 rfl ?_
      refine g_invV (pc' := 82) (cm_tells hok hw hR (Lv_T hok hw ht hf 0) hq1 _ _ _ _ (Or.inr (Or.inr (Or.inl rfl)))) dX12_lost_79 rfl rfl ck_13 rfl ml_X12_475 im_X12_tells sl_X12_tells in_X12 co_X12_tells pd_X12_tells rfl (by omega) (by decide) ⟨by decide, by decide⟩ (Nat.le_of_ble_eq_true rfl) ?_
      rintro _ h2 ⟨rfl, w2⟩ -
      have hs : Shp h2.2 := (hq1.wk w2).1
      refine g_imul (pc' := 83) dX12_lost_82 rfl ?_
      refine g_istore (pc' := 85) dX12_lost_83 rfl (by decide) rfl ?_
      try simp only [List.set]
      refine g_aload_n (pc' := 86) dX12_lost_85 rfl rfl ?_
      refine g_getS (pc' := 89) (k := 29) (b := (129, 0)) dX12_lost_86 rfl rfl ck_13 (by decide) fl_X12_78 rfl hs rfl ?_
      refine g_iload_n (pc' := 90) dX12_lost_89 rfl rfl ?_
      refine g_dup2 (pc' := 91) dX12_lost_90 rfl rfl rfl ?_
      refine g_ialdN (pc' := 92) (v := mo h 129 (hl (mo h) t)) dX12_lost_91 rfl rfl (by decide) (by omega) ((show h2.1 (129, 0) (hl (mo h) t) = mo h 129 (hl (mo h) t) by rw [← (hq1.wk w2).2.1]; rfl)) ?_
      refine g_iload (pc' := 94) dX12_lost_92 rfl rfl ?_
      refine g_iadd (pc' := 95) dX12_lost_94 rfl ?_
      refine g_iastN (pc' := 96) dX12_lost_95 rfl rfl (by decide) (by omega) ?_
      refine g_aload_n (pc' := 97) dX12_lost_96 rfl rfl ?_
      refine g_iload_n (pc' := 98) dX12_lost_97 rfl rfl ?_
      refine g_bipushN (n := 20) (pc' := 100) dX12_lost_98 rfl (by decide) ?_
      refine g_invV (pc' := 103) (cm_writes hok (by exact hs) (n := nA (mo h)) (by omega) (by exact (show h2.1 MO 70 = mo h 1 70 by rw [← (hq1.wk w2).2.1]; rfl).trans hA) _ _) dX12_lost_100 rfl rfl ck_13 rfl ml_X12_479 im_X12_writes sl_X12_writes in_X12 co_X12_writes pd_X12_writes rfl (by omega) (by decide) ⟨by decide, by decide⟩ (Nat.le_of_ble_eq_true rfl) ?_
      rintro _ _ ⟨rfl, rfl⟩ -
      refine g_aload_n (pc' := 104) dX12_lost_103 rfl rfl ?_
      refine g_iload_n (pc' := 105) dX12_lost_104 rfl rfl ?_
      refine g_iconstN (n := 2) (pc' := 106) dX12_lost_105 rfl ?_
      refine g_invV (pc' := 109) (cm_comes hok (by exact hs) (t := t) (by omega) _) dX12_lost_106 rfl rfl ck_13 rfl ml_X12_483 im_X12_comes sl_X12_comes in_X12 co_X12_comes pd_X12_comes rfl (by omega) (by decide) ⟨by decide, by decide⟩ (Nat.le_of_ble_eq_true rfl) ?_
      rintro _ _ ⟨rfl, rfl⟩ -
      refine g_iload (pc' := 111) dX12_lost_109 rfl rfl ?_
      refine g_iret dX12_lost_111 rfl (by decide) (by decide) ?_
      have e : s = 6 := by omega
      subst e
      refine hQ _ ?_ ?_
      · rw [mo_cms, mo_wrt, mo_wI (s := 129) rfl, w2.mo, hq1.2.1]
        rfl
      · exact ((((((Mk.rf h).std _ _ _ _).tr w2.mk).w (Or.inr (by decide))).wrt _ _ _).cms _ _)
    · exact absurd c27 (by omega)
  | succ n ih =>
    intro s h1 h2
    refine g_iload_n (pc' := 25) dX12_lost_24 rfl rfl ?_
    refine g_bipushN (n := 6) (pc' := 27) dX12_lost_25 rfl (by decide) ?_
    refine g_icmp_geN (tgt := 50) (pc' := 30) dX12_lost_27 rfl (by decide) (by omega) (by omega) (fun c27 => ?_) (fun c27 => ?_)
    · exact absurd c27 (by omega)
    ·
      refine g_iload_n (pc' := 31) dX12_lost_30 rfl rfl ?_
      refine g_aload_n (pc' := 32) dX12_lost_31 rfl rfl ?_
      refine g_getS (pc' := 35) (k := 25) (b := (125, 0)) dX12_lost_32 rfl rfl ck_13 (by decide) fl_X12_66 rfl hs rfl ?_
      refine g_bipushN (n := 6) (pc' := 37) dX12_lost_35 rfl (by decide) ?_
      refine g_iload_n (pc' := 38) dX12_lost_37 rfl rfl ?_
      refine g_imulN (pc' := 39) dX12_lost_38 rfl ?_
      refine g_iload_n (pc' := 40) dX12_lost_39 rfl rfl ?_
      refine g_iaddN (pc' := 41) dX12_lost_40 rfl ?_
      refine g_ialdN (pc' := 42) (v := _) dX12_lost_41 rfl rfl (by decide) (by omega) (rfl) ?_
      refine g_iadd (pc' := 43) dX12_lost_42 rfl ?_
      refine g_istore_n (pc' := 44) dX12_lost_43 rfl (by decide) rfl ?_
      try simp only [List.set]
      refine g_iincN (k := 1) (pc' := 47) dX12_lost_44 rfl rfl (by decide) rfl ?_
      try simp only [List.set]
      refine g_goto (tgt := 24) dX12_lost_47 (by decide) ?_
      exact ih (s + 1) (by omega) (by omega)
set_option maxRecDepth 4000 in
theorem cm_lost {E : En} (hok : EOK E) {h : Hp} (hs : Shp h.2) (hw : Wf (mo h)) (hx : Wx (mo h)) {R : Rm} (hR : WR (mo h) R) (t0 : Int32) : Call E m_X12_lost 7 0 0 [vR MO, vI t0] h (fun r h' => r = some (vI (sLost (mo h) R t0).1) ∧ mo h' = (sLost (mo h) R t0).2 ∧ Mk h h') := by
  have hNw : h.1 MO 2 = nI (nW (mo h)) := hw.w.1
  have hNwb := hw.w.2
  have hC : h.1 MO 30 = nI (nC (mo h)) := hw.c.1
  have hCb := hw.c.2
  have hK : h.1 MO 3 = nI (nK (mo h)) := hw.k.1
  have hKb := hw.k.2
  have hT : h.1 MO 4 = nI (nT (mo h)) := hw.t.1
  have hTb := hw.t.2
  have hF : h.1 MO 5 = nI (nF (mo h)) := hw.f.1
  have hFb := hw.f.2
  have hRc : h.1 MO 59 = nI (nR (mo h)) := hw.r.1
  have hRb := hw.r.2
  have hG : h.1 MO 60 = nI (nGf (mo h)) := hw.g.1
  have hGb := hw.g.2
  have hA : h.1 MO 70 = nI (nA (mo h)) := hw.a.1
  have hAb := hw.a.2
  have hTl : h.1 MO 1 = nI (nTl (mo h)) := hw.tl.1
  have hTlb := hw.tl.2
  refine Call.enter hok (by decide) (Nat.le_of_ble_eq_true rfl) ?_
  show G E m_X12_lost 7 0 0 _ h 0 [some (vR MO), some (vI t0), none, none, none] [] h 0 0
  refine g_aload_n (pc' := 1) dX12_lost_0 rfl rfl ?_
  refine g_iload_n (pc' := 2) dX12_lost_1 rfl rfl ?_
  refine g_invV (pc' := 5) (cm_isToy hok hw _) dX12_lost_2 rfl rfl ck_13 rfl ml_X12_443 im_X12_isToy sl_X12_isToy in_X12 co_X12_isToy pd_X12_isToy rfl (by omega) (by decide) ⟨by decide, by decide⟩ (Nat.le_of_ble_eq_true rfl) ?_
  rintro _ _ ⟨rfl, rfl⟩ -
  refine g_ifB_eq (tgt := 18) (pc' := 8) dX12_lost_5 rfl (by decide) (fun c5 => ?_) (fun c5 => ?_)
  ·
    refine g_iconst (v := -1) (pc' := 19) dX12_lost_18 rfl (by decide) ?_
    refine g_iret dX12_lost_19 rfl (by decide) (by decide) ?_
    have e : sLost (mo h) R t0 = (-1, mo h) := cif_f (fun z => c5 z.1)
    rw [e]
    exact ⟨rfl, rfl, Mk.rf h⟩
  ·
    have k5 := c5
    obtain ⟨t, ht, rfl⟩ := k5
    refine g_aload_n (pc' := 9) dX12_lost_8 rfl rfl ?_
    refine g_getS (pc' := 12) (k := 18) (b := (118, 0)) dX12_lost_9 rfl rfl ck_13 (by decide) fl_X12_44 rfl hs rfl ?_
    refine g_iload_n (pc' := 13) dX12_lost_12 rfl rfl ?_
    refine g_ialdN (pc' := 14) (v := _) dX12_lost_13 rfl rfl (by decide) (by omega) (rfl) ?_
    refine g_iconstN (n := 1) (pc' := 15) dX12_lost_14 rfl ?_
    refine g_icmp_eq (tgt := 20) (pc' := 18) dX12_lost_15 rfl (by decide) (fun c15 => ?_) (fun c15 => ?_)
    ·
      refine g_iconst (v := 0) (pc' := 21) dX12_lost_20 rfl (by decide) ?_
      refine g_istore_n (pc' := 22) dX12_lost_21 rfl (by decide) rfl ?_
      try simp only [List.set]
      refine g_iconstN (n := 0) (pc' := 23) dX12_lost_22 rfl ?_
      refine g_istore_n (pc' := 24) dX12_lost_23 rfl (by decide) rfl ?_
      try simp only [List.set]
      have q := Wx.hl hx ht c15 hFb
      have e : sLost (mo h) R (nI t) = (lostA (mo h) R t, lostS (mo h) t (lostA (mo h) R t)) := by unfold sLost; simp only [nI_clamp (show t < 2 ^ 31 by omega)]; exact cif_t ⟨c5, c15⟩
      rw [e]
      exact lm_lost hok hs hw hR ht q.2 q.1 (by omega) (fun _ a b => ⟨rfl, a, b⟩) _ 0 (Nat.zero_le _) rfl
    ·
      refine g_iconst (v := -1) (pc' := 19) dX12_lost_18 rfl (by decide) ?_
      refine g_iret dX12_lost_19 rfl (by decide) (by decide) ?_
      have e : sLost (mo h) R (nI t) = (-1, mo h) := by unfold sLost; simp only [nI_clamp (show t < 2 ^ 31 by omega)]; exact cif_f (fun z => c15 z.2)
      rw [e]
      exact ⟨rfl, rfl, Mk.rf h⟩
noncomputable def tnF (m : St) (R : Rm) (k f : Nat) : Int32 := tlF m R (envN m k f) (nI 110) (-100000) 100000 (nI 0) (nC m) 0
set_option maxRecDepth 4000 in
theorem cm_turnOf {E : En} (hok : EOK E) {h : Hp} (hs : Shp h.2) (hw : Wf (mo h)) {R : Rm} (hR : WR (mo h) R) {k f : Nat} (hk : k < nK (mo h)) (hf : f < nF (mo h)) : Call E m_X12_turnOf 6 0 0 [vR MO, vI (nI k), vI (nI f)] h (fun r h' => r = some (vI (tnF (mo h) R k f)) ∧ mo h' = mo h ∧ Mk h h') := by
  refine Call.enter hok (by decide) (Nat.le_of_ble_eq_true rfl) ?_
  show G E m_X12_turnOf 6 0 0 _ h 0 [some (vR MO), some (vI (nI k)), some (vI (nI f))] [] h 0 0
  refine g_aload_n (pc' := 1) dX12_turnOf_0 rfl rfl ?_
  refine g_iload_n (pc' := 2) dX12_turnOf_1 rfl rfl ?_
  refine g_iconst (v := -1) (pc' := 3) dX12_turnOf_2 rfl (by decide) ?_
  refine g_iload_n (pc' := 4) dX12_turnOf_3 rfl rfl ?_
  refine g_iconstN (n := 0) (pc' := 5) dX12_turnOf_4 rfl ?_
  refine g_invV (pc' := 8) (cm_stands hok hs _ _ _ _) dX12_turnOf_5 rfl rfl ck_13 rfl ml_X12_458 im_X12_stands sl_X12_stands in_X12 co_X12_stands pd_X12_stands rfl (by omega) (by decide) ⟨by decide, by decide⟩ (Nat.le_of_ble_eq_true rfl) ?_
  rintro _ _ ⟨rfl, rfl⟩ -
  have hq1 := Hq_std hs k (-1) f 0
  refine g_aload_n (pc' := 9) dX12_turnOf_8 rfl rfl ?_
  refine g_bipushN (n := 110) (pc' := 11) dX12_turnOf_9 rfl (by decide) ?_
  refine g_ldcw (pc' := 14) dX12_turnOf_11 rfl kc_X12_518 ?_
  refine g_ldcw (pc' := 17) dX12_turnOf_14 rfl kc_X12_482 ?_
  refine g_iconstN (n := 0) (pc' := 18) dX12_turnOf_17 rfl ?_
  refine g_invV (pc' := 21) (cm_tells hok hw hR (Lv_N hok hw hk hf) hq1 _ _ _ _ (Or.inr (Or.inr (Or.inr rfl)))) dX12_turnOf_18 rfl rfl ck_13 rfl ml_X12_475 im_X12_tells sl_X12_tells in_X12 co_X12_tells pd_X12_tells rfl (by omega) (by decide) ⟨by decide, by decide⟩ (Nat.le_of_ble_eq_true rfl) ?_
  rintro _ h2 ⟨rfl, w2⟩ -
  refine g_iret dX12_turnOf_21 rfl (by decide) (by decide) ?_
  exact ⟨rfl, w2.mo.trans hq1.2.1, ((Mk.rf h).std _ _ _ _).tr w2.mk⟩
/-- who comes next, of the first n families -/
noncomputable def nxF (m : St) (R : Rm) (k : Nat) : Nat → Int32 × Int32
  | 0 => (-1, nI 0)
  | n + 1 => cif (m 186 (8 * n + k) = -1) (nxF m R k n) (cif ((nxF m R k n).1 = -1 ∨ (nxF m R k n).2 < tnF m R k n ∨ (tnF m R k n = (nxF m R k n).2 ∧ m 186 (8 * n + k) < m 186 (8 * (nxF m R k n).1.toNatClampNeg + k))) (nI n, tnF m R k n) (nxF m R k n))
theorem nxF_1 (m : St) (R : Rm) (k : Nat) : ∀ n, (nxF m R k n).1 = -1 ∨ ∃ j : Nat, j < n ∧ (nxF m R k n).1 = nI j
  | 0 => Or.inl rfl
  | n + 1 => by
    have ih := nxF_1 m R k n
    have ih' : (nxF m R k n).1 = -1 ∨ ∃ j : Nat, j < n + 1 ∧ (nxF m R k n).1 = nI j := by
      rcases ih with q | ⟨j, h1, h2⟩
      · exact Or.inl q
      · exact Or.inr ⟨j, by omega, h2⟩
    unfold nxF
    by_cases q : m 186 (8 * n + k) = -1
    · rw [cif_t q]; exact ih'
    · rw [cif_f q]
      by_cases z : (nxF m R k n).1 = -1 ∨ (nxF m R k n).2 < tnF m R k n ∨ (tnF m R k n = (nxF m R k n).2 ∧ m 186 (8 * n + k) < m 186 (8 * (nxF m R k n).1.toNatClampNeg + k))
      · rw [cif_t z]; exact Or.inr ⟨n, Nat.lt_succ_self n, rfl⟩
      · rw [cif_f z]; exact ih'
noncomputable def nxA (m : St) (R : Rm) (k : Nat) (x : Int32) : Int32 := cif (x = 2) (nI (wfr m k)) (cif ((nxF m R k (nF m)).1 = -1) (-1000000) (cif (x = 0) (nxF m R k (nF m)).1 (nxF m R k (nF m)).2))
noncomputable def sNext (m : St) (R : Rm) (k0 x : Int32) : Int32 × St := cif ((∃ j : Nat, j < nK m ∧ k0 = nI j) ∧ 0 ≤ x ∧ x ≤ 2) (nxA m R k0.toNatClampNeg x, m) (-1000000, m)
set_option maxRecDepth 4000 in
theorem lm_next {E : En} (hok : EOK E) {h h0 : Hp} (hs0 : Shp h.2) (hw : Wf (mo h)) {R : Rm} (hR : WR (mo h) R) {k : Nat} (hk : k < nK (mo h)) {x : Int32} (hx2 : ¬ x = 2) {d : Nat} (hd : 7 ≤ d) {Q : Option V → Hp → Prop} (hQ : ∀ h', mo h' = mo h → Mk h h' → Q (some (vI (nxA (mo h) R k x))) h') : ∀ n f h1, f ≤ nF (mo h) → nF (mo h) - f = n → mo h1 = mo h → Mk h h1 → G E m_X12_next d 0 0 Q h0 43 [some (vR MO), some (vI (nI k)), some (vI x), some (vI (nxF (mo h) R k f).1), some (vI (nxF (mo h) R k f).2), some (vI (nI f)), none, none] [] h1 0 0 := by
  have hNw : h.1 MO 2 = nI (nW (mo h)) := hw.w.1
  have hNwb := hw.w.2
  have hC : h.1 MO 30 = nI (nC (mo h)) := hw.c.1
  have hCb := hw.c.2
  have hK : h.1 MO 3 = nI (nK (mo h)) := hw.k.1
  have hKb := hw.k.2
  have hT : h.1 MO 4 = nI (nT (mo h)) := hw.t.1
  have hTb := hw.t.2
  have hF : h.1 MO 5 = nI (nF (mo h)) := hw.f.1
  have hFb := hw.f.2
  have hRc : h.1 MO 59 = nI (nR (mo h)) := hw.r.1
  have hRb := hw.r.2
  have hG : h.1 MO 60 = nI (nGf (mo h)) := hw.g.1
  have hGb := hw.g.2
  have hA : h.1 MO 70 = nI (nA (mo h)) := hw.a.1
  have hAb := hw.a.2
  have hTl : h.1 MO 1 = nI (nTl (mo h)) := hw.tl.1
  have hTlb := hw.tl.2
  intro n
  induction n with
  | zero =>
    intro f h1 g1 g2 e1 k1
    have hs1 : Shp h1.2 := by rw [k1.1]; exact hs0
    have hs := hs1
    refine g_iload (pc' := 45) dX12_next_43 rfl rfl ?_
    refine g_aload_n (pc' := 46) dX12_next_45 rfl rfl ?_
    refine g_getIv (v := nI (nF (mo h))) (pc' := 49) (k := 5) dX12_next_46 rfl rfl ck_13 (by decide) fl_X12_214 rfl ((show h1.1 MO 5 = mo h 1 5 by rw [← e1]; rfl).trans hF) ?_
    refine g_icmp_geN (tgt := 164) (pc' := 52) dX12_next_49 rfl (by decide) (by omega) (by omega) (fun c49 => ?_) (fun c49 => ?_)
    ·
      refine g_iload_n (pc' := 165) dX12_next_164 rfl rfl ?_
      refine g_iconst (v := -1) (pc' := 166) dX12_next_165 rfl (by decide) ?_
      refine g_icmp_ne (tgt := 175) (pc' := 169) dX12_next_166 rfl (by decide) (fun c166 => ?_) (fun c166 => ?_)
      ·
        refine g_iload_n (pc' := 176) dX12_next_175 rfl rfl ?_
        refine g_if_ne (tgt := 183) (pc' := 179) dX12_next_176 rfl (by decide) (fun c176 => ?_) (fun c176 => ?_)
        ·
          refine g_iload (pc' := 185) dX12_next_183 rfl rfl ?_
          refine g_iret dX12_next_185 rfl (by decide) (by decide) ?_
          have e : f = nF (mo h) := by omega
          subst e
          have q := hQ h1 e1 k1
          rw [show nxA (mo h) R k x = (nxF (mo h) R k (nF (mo h))).2 from (cif_f hx2).trans ((cif_f c166).trans (cif_f c176))] at q
          exact q
        ·
          refine g_iload_n (pc' := 180) dX12_next_179 rfl rfl ?_
          refine g_goto (tgt := 185) dX12_next_180 (by decide) ?_
          refine g_iret dX12_next_185 rfl (by decide) (by decide) ?_
          have e : f = nF (mo h) := by omega
          subst e
          have q := hQ h1 e1 k1
          rw [show nxA (mo h) R k x = (nxF (mo h) R k (nF (mo h))).1 from (cif_f hx2).trans ((cif_f c166).trans (cif_t c176))] at q
          exact q
      ·
        refine g_ldcw (pc' := 172) dX12_next_169 rfl kc_X12_519 ?_
        refine g_goto (tgt := 185) dX12_next_172 (by decide) ?_
        refine g_iret dX12_next_185 rfl (by decide) (by decide) ?_
        have e : f = nF (mo h) := by omega
        subst e
        have q := hQ h1 e1 k1
        rw [show nxA (mo h) R k x = -1000000 from (cif_f hx2).trans (cif_t c166)] at q
        exact q
    · exact absurd c49 (by omega)
  | succ n ih =>
    intro f h1 g1 g2 e1 k1
    have hs1 : Shp h1.2 := by rw [k1.1]; exact hs0
    have hs := hs1
    refine g_iload (pc' := 45) dX12_next_43 rfl rfl ?_
    refine g_aload_n (pc' := 46) dX12_next_45 rfl rfl ?_
    refine g_getIv (v := nI (nF (mo h))) (pc' := 49) (k := 5) dX12_next_46 rfl rfl ck_13 (by decide) fl_X12_214 rfl ((show h1.1 MO 5 = mo h 1 5 by rw [← e1]; rfl).trans hF) ?_
    refine g_icmp_geN (tgt := 164) (pc' := 52) dX12_next_49 rfl (by decide) (by omega) (by omega) (fun c49 => ?_) (fun c49 => ?_)
    · exact absurd c49 (by omega)
    ·
      refine g_aload_n (pc' := 53) dX12_next_52 rfl rfl ?_
      refine g_getS (pc' := 56) (k := 86) (b := (186, 0)) dX12_next_53 rfl rfl ck_13 (by decide) fl_X12_183 rfl hs rfl ?_
      refine g_bipushN (n := 8) (pc' := 58) dX12_next_56 rfl (by decide) ?_
      refine g_iload (pc' := 60) dX12_next_58 rfl rfl ?_
      refine g_imulN (pc' := 61) dX12_next_60 rfl ?_
      refine g_iload_n (pc' := 62) dX12_next_61 rfl rfl ?_
      refine g_iaddN (pc' := 63) dX12_next_62 rfl ?_
      refine g_ialdN (pc' := 64) (v := mo h 186 (8 * f + k)) dX12_next_63 rfl rfl (by decide) (by omega) ((show h1.1 (186, 0) (8 * f + k) = mo h 186 (8 * f + k) by rw [← e1]; rfl)) ?_
      refine g_iconst (v := -1) (pc' := 65) dX12_next_64 rfl (by decide) ?_
      refine g_icmp_ne (tgt := 71) (pc' := 68) dX12_next_65 rfl (by decide) (fun c65 => ?_) (fun c65 => ?_)
      ·
        refine g_aload_n (pc' := 72) dX12_next_71 rfl rfl ?_
        refine g_iload_n (pc' := 73) dX12_next_72 rfl rfl ?_
        refine g_iload (pc' := 75) dX12_next_73 rfl rfl ?_
        refine g_invV (pc' := 78) (cm_turnOf hok hs1 (by rw [e1]; exact hw) (by rw [e1]; exact hR) (k := k) (f := f) (by rw [e1]; exact hk) (by rw [e1]; omega)) dX12_next_75 rfl rfl ck_13 rfl ml_X12_520 im_X12_turnOf sl_X12_turnOf in_X12 co_X12_turnOf pd_X12_turnOf rfl (by omega) (by decide) ⟨by decide, by decide⟩ (Nat.le_of_ble_eq_true rfl) ?_
        rintro _ h2 ⟨rfl, e2, k2⟩ -
        rw [e1] at e2 ⊢
        have hs2 : Shp h2.2 := by rw [k2.1]; exact hs1
        have hs := hs2
        refine g_istore (pc' := 80) dX12_next_78 rfl (by decide) rfl ?_
        try simp only [List.set]
        refine g_iload_n (pc' := 81) dX12_next_80 rfl rfl ?_
        refine g_iconst (v := -1) (pc' := 82) dX12_next_81 rfl (by decide) ?_
        refine g_icmp_eq (tgt := 125) (pc' := 85) dX12_next_82 rfl (by decide) (fun c82 => ?_) (fun c82 => ?_)
        ·
          refine g_iconstN (n := 1) (pc' := 126) dX12_next_125 rfl ?_
          refine g_goto (tgt := 130) dX12_next_126 (by decide) ?_
          refine g_istore (pc' := 132) dX12_next_130 rfl (by decide) rfl ?_
          try simp only [List.set]
          refine g_iload (pc' := 134) dX12_next_132 rfl rfl ?_
          refine g_if_eqN (tgt := 142) (pc' := 137) dX12_next_134 rfl (by decide) (by decide) (fun q => False.elim (by revert q; decide)) (fun _ => ?_)
          refine g_iload (pc' := 139) dX12_next_137 rfl rfl ?_
          refine g_goto (tgt := 143) dX12_next_139 (by decide) ?_
          refine g_istore_n (pc' := 144) dX12_next_143 rfl (by decide) rfl ?_
          try simp only [List.set]
          refine g_iload (pc' := 146) dX12_next_144 rfl rfl ?_
          refine g_if_eqN (tgt := 154) (pc' := 149) dX12_next_146 rfl (by decide) (by decide) (fun q => False.elim (by revert q; decide)) (fun _ => ?_)
          refine g_iload (pc' := 151) dX12_next_149 rfl rfl ?_
          refine g_goto (tgt := 156) dX12_next_151 (by decide) ?_
          refine g_istore (pc' := 158) dX12_next_156 rfl (by decide) rfl ?_
          try simp only [List.set]
          refine g_iincN (k := 1) (pc' := 161) dX12_next_158 rfl rfl (by decide) rfl ?_
          try simp only [List.set]
          refine g_goto (tgt := 43) dX12_next_161 (by decide) ?_
          refine G.drop 6 ?_
          refine G.drop 7 ?_
          simp only [List.set]
          have q := ih (f + 1) h2 (by omega) (by omega) e2 (k1.tr k2)
          rw [show nxF (mo h) R k (f + 1) = (nI f, tnF (mo h) R k f) from (cif_f c65).trans (cif_t (Or.inl c82))] at q
          exact q
        ·
          refine g_iload (pc' := 87) dX12_next_85 rfl rfl ?_
          refine g_iload (pc' := 89) dX12_next_87 rfl rfl ?_
          refine g_icmp_gt (tgt := 125) (pc' := 92) dX12_next_89 rfl (by decide) (fun c89 => ?_) (fun c89 => ?_)
          ·
            refine g_iconstN (n := 1) (pc' := 126) dX12_next_125 rfl ?_
            refine g_goto (tgt := 130) dX12_next_126 (by decide) ?_
            refine g_istore (pc' := 132) dX12_next_130 rfl (by decide) rfl ?_
            try simp only [List.set]
            refine g_iload (pc' := 134) dX12_next_132 rfl rfl ?_
            refine g_if_eqN (tgt := 142) (pc' := 137) dX12_next_134 rfl (by decide) (by decide) (fun q => False.elim (by revert q; decide)) (fun _ => ?_)
            refine g_iload (pc' := 139) dX12_next_137 rfl rfl ?_
            refine g_goto (tgt := 143) dX12_next_139 (by decide) ?_
            refine g_istore_n (pc' := 144) dX12_next_143 rfl (by decide) rfl ?_
            try simp only [List.set]
            refine g_iload (pc' := 146) dX12_next_144 rfl rfl ?_
            refine g_if_eqN (tgt := 154) (pc' := 149) dX12_next_146 rfl (by decide) (by decide) (fun q => False.elim (by revert q; decide)) (fun _ => ?_)
            refine g_iload (pc' := 151) dX12_next_149 rfl rfl ?_
            refine g_goto (tgt := 156) dX12_next_151 (by decide) ?_
            refine g_istore (pc' := 158) dX12_next_156 rfl (by decide) rfl ?_
            try simp only [List.set]
            refine g_iincN (k := 1) (pc' := 161) dX12_next_158 rfl rfl (by decide) rfl ?_
            try simp only [List.set]
            refine g_goto (tgt := 43) dX12_next_161 (by decide) ?_
            refine G.drop 6 ?_
            refine G.drop 7 ?_
            simp only [List.set]
            have q := ih (f + 1) h2 (by omega) (by omega) e2 (k1.tr k2)
            rw [show nxF (mo h) R k (f + 1) = (nI f, tnF (mo h) R k f) from (cif_f c65).trans (cif_t (Or.inr (Or.inl c89)))] at q
            exact q
          ·
            refine g_iload (pc' := 94) dX12_next_92 rfl rfl ?_
            refine g_iload (pc' := 96) dX12_next_94 rfl rfl ?_
            refine g_icmp_ne (tgt := 129) (pc' := 99) dX12_next_96 rfl (by decide) (fun c96 => ?_) (fun c96 => ?_)
            ·
              refine g_iconstN (n := 0) (pc' := 130) dX12_next_129 rfl ?_
              refine g_istore (pc' := 132) dX12_next_130 rfl (by decide) rfl ?_
              try simp only [List.set]
              refine g_iload (pc' := 134) dX12_next_132 rfl rfl ?_
              refine g_if_eqN (tgt := 142) (pc' := 137) dX12_next_134 rfl (by decide) (by decide) (fun _ => ?_) (fun q => False.elim (by revert q; decide))
              refine g_iload_n (pc' := 143) dX12_next_142 rfl rfl ?_
              refine g_istore_n (pc' := 144) dX12_next_143 rfl (by decide) rfl ?_
              try simp only [List.set]
              refine g_iload (pc' := 146) dX12_next_144 rfl rfl ?_
              refine g_if_eqN (tgt := 154) (pc' := 149) dX12_next_146 rfl (by decide) (by decide) (fun _ => ?_) (fun q => False.elim (by revert q; decide))
              refine g_iload (pc' := 156) dX12_next_154 rfl rfl ?_
              refine g_istore (pc' := 158) dX12_next_156 rfl (by decide) rfl ?_
              try simp only [List.set]
              refine g_iincN (k := 1) (pc' := 161) dX12_next_158 rfl rfl (by decide) rfl ?_
              try simp only [List.set]
              refine g_goto (tgt := 43) dX12_next_161 (by decide) ?_
              refine G.drop 6 ?_
              refine G.drop 7 ?_
              simp only [List.set]
              have q := ih (f + 1) h2 (by omega) (by omega) e2 (k1.tr k2)
              rw [show nxF (mo h) R k (f + 1) = nxF (mo h) R k f from (cif_f c65).trans (cif_f (fun z => by rcases z with z | z | z; exact c82 z; exact c89 z; exact c96 z.1))] at q
              exact q
            ·
              refine g_aload_n (pc' := 100) dX12_next_99 rfl rfl ?_
              refine g_getS (pc' := 103) (k := 86) (b := (186, 0)) dX12_next_100 rfl rfl ck_13 (by decide) fl_X12_183 rfl hs rfl ?_
              refine g_bipushN (n := 8) (pc' := 105) dX12_next_103 rfl (by decide) ?_
              refine g_iload (pc' := 107) dX12_next_105 rfl rfl ?_
              refine g_imulN (pc' := 108) dX12_next_107 rfl ?_
              refine g_iload_n (pc' := 109) dX12_next_108 rfl rfl ?_
              refine g_iaddN (pc' := 110) dX12_next_109 rfl ?_
              refine g_ialdN (pc' := 111) (v := mo h 186 (8 * f + k)) dX12_next_110 rfl rfl (by decide) (by omega) ((show h2.1 (186, 0) (8 * f + k) = mo h 186 (8 * f + k) by rw [← e2]; rfl)) ?_
              refine g_aload_n (pc' := 112) dX12_next_111 rfl rfl ?_
              refine g_getS (pc' := 115) (k := 86) (b := (186, 0)) dX12_next_112 rfl rfl ck_13 (by decide) fl_X12_183 rfl hs rfl ?_
              refine g_bipushN (n := 8) (pc' := 117) dX12_next_115 rfl (by decide) ?_
              obtain ⟨j, hj, ej⟩ := (nxF_1 (mo h) R k f).resolve_left c82
              rw [ej]
              refine g_iload_n (pc' := 118) dX12_next_117 rfl rfl ?_
              refine g_imulN (pc' := 119) dX12_next_118 rfl ?_
              refine g_iload_n (pc' := 120) dX12_next_119 rfl rfl ?_
              refine g_iaddN (pc' := 121) dX12_next_120 rfl ?_
              refine g_ialdN (pc' := 122) (v := mo h 186 (8 * j + k)) dX12_next_121 rfl rfl (by decide) (by omega) ((show h2.1 (186, 0) (8 * j + k) = mo h 186 (8 * j + k) by rw [← e2]; rfl)) ?_
              refine g_icmp_ge (tgt := 129) (pc' := 125) dX12_next_122 rfl (by decide) (fun c122 => ?_) (fun c122 => ?_)
              ·
                refine g_iconstN (n := 0) (pc' := 130) dX12_next_129 rfl ?_
                refine g_istore (pc' := 132) dX12_next_130 rfl (by decide) rfl ?_
                try simp only [List.set]
                refine g_iload (pc' := 134) dX12_next_132 rfl rfl ?_
                refine g_if_eqN (tgt := 142) (pc' := 137) dX12_next_134 rfl (by decide) (by decide) (fun _ => ?_) (fun q => False.elim (by revert q; decide))
                refine g_iload_n (pc' := 143) dX12_next_142 rfl rfl ?_
                refine g_istore_n (pc' := 144) dX12_next_143 rfl (by decide) rfl ?_
                try simp only [List.set]
                refine g_iload (pc' := 146) dX12_next_144 rfl rfl ?_
                refine g_if_eqN (tgt := 154) (pc' := 149) dX12_next_146 rfl (by decide) (by decide) (fun _ => ?_) (fun q => False.elim (by revert q; decide))
                refine g_iload (pc' := 156) dX12_next_154 rfl rfl ?_
                refine g_istore (pc' := 158) dX12_next_156 rfl (by decide) rfl ?_
                try simp only [List.set]
                refine g_iincN (k := 1) (pc' := 161) dX12_next_158 rfl rfl (by decide) rfl ?_
                try simp only [List.set]
                refine g_goto (tgt := 43) dX12_next_161 (by decide) ?_
                refine G.drop 6 ?_
                refine G.drop 7 ?_
                simp only [List.set]
                have q := ih (f + 1) h2 (by omega) (by omega) e2 (k1.tr k2)
                rw [show nxF (mo h) R k (f + 1) = nxF (mo h) R k f from (cif_f c65).trans (cif_f (fun z => by rcases z with z | z | z; exact c82 z; exact c89 z; rw [ej, nI_clamp (by omega)] at z; exact absurd z.2 (Int32.not_lt.mpr c122)))] at q
                rw [ej] at q
                exact q
              ·
                refine g_iconstN (n := 1) (pc' := 126) dX12_next_125 rfl ?_
                refine g_goto (tgt := 130) dX12_next_126 (by decide) ?_
                refine g_istore (pc' := 132) dX12_next_130 rfl (by decide) rfl ?_
                try simp only [List.set]
                refine g_iload (pc' := 134) dX12_next_132 rfl rfl ?_
                refine g_if_eqN (tgt := 142) (pc' := 137) dX12_next_134 rfl (by decide) (by decide) (fun q => False.elim (by revert q; decide)) (fun _ => ?_)
                refine g_iload (pc' := 139) dX12_next_137 rfl rfl ?_
                refine g_goto (tgt := 143) dX12_next_139 (by decide) ?_
                refine g_istore_n (pc' := 144) dX12_next_143 rfl (by decide) rfl ?_
                try simp only [List.set]
                refine g_iload (pc' := 146) dX12_next_144 rfl rfl ?_
                refine g_if_eqN (tgt := 154) (pc' := 149) dX12_next_146 rfl (by decide) (by decide) (fun q => False.elim (by revert q; decide)) (fun _ => ?_)
                refine g_iload (pc' := 151) dX12_next_149 rfl rfl ?_
                refine g_goto (tgt := 156) dX12_next_151 (by decide) ?_
                refine g_istore (pc' := 158) dX12_next_156 rfl (by decide) rfl ?_
                try simp only [List.set]
                refine g_iincN (k := 1) (pc' := 161) dX12_next_158 rfl rfl (by decide) rfl ?_
                try simp only [List.set]
                refine g_goto (tgt := 43) dX12_next_161 (by decide) ?_
                refine G.drop 6 ?_
                refine G.drop 7 ?_
                simp only [List.set]
                have q := ih (f + 1) h2 (by omega) (by omega) e2 (k1.tr k2)
                rw [show nxF (mo h) R k (f + 1) = (nI f, tnF (mo h) R k f) from (cif_f c65).trans (cif_t (Or.inr (Or.inr ⟨c96, by rw [ej, nI_clamp (by omega)]; exact Int32.not_le.mp c122⟩)))] at q
                exact q
      ·
        refine g_goto (tgt := 158) dX12_next_68 (by decide) ?_
        refine g_iincN (k := 1) (pc' := 161) dX12_next_158 rfl rfl (by decide) rfl ?_
        try simp only [List.set]
        refine g_goto (tgt := 43) dX12_next_161 (by decide) ?_
        have q := ih (f + 1) h1 (by omega) (by omega) e1 k1
        rw [show nxF (mo h) R k (f + 1) = nxF (mo h) R k f from cif_t c65] at q
        exact q
