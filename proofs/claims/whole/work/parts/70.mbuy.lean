set_option maxRecDepth 4000 in
theorem lm_thereOf {E : En} (hok : EOK E) {h h0 : Hp} (hs : Shp h.2) (hw : Wf (mo h)) {k : Nat} (hk : k < 8) {d : Nat} (hd : 3 ≤ d) {Q : Option V → Hp → Prop} (hQ : Q (some (vI (nI (th (mo h) k)))) h) : ∀ n t : Nat, t ≤ nT (mo h) → nT (mo h) - t = n → G E m_X12_thereOf d 0 0 Q h0 4 [some (vR MO), some (vI (nI k)), some (vI (nI (cnt (fun t => kd (mo h) t = k ∧ mo h 118 t < nI 2 ∧ ¬ isRec (mo h) t) t))), some (vI (nI t))] [] (h) 0 0 := by
  have hNw : h.1 MO 2 = nI (nW (mo h)) := hw.w.1
  have hNwb := hw.w.2
  have hC : h.1 MO 30 = nI (nC (mo h)) := hw.c.1
  have hCb := hw.c.2
  have hK : h.1 MO 3 = nI (nK (mo h)) := hw.k.1
  have hKb := hw.k.2
  have hT : h.1 MO 4 = nI (nT (mo h)) := hw.t.1
  have hTb := hw.t.2
  have hF : h.1 MO 5 = nI (nF (mo h)) := hw.f.1
  have hFb := hw.f.2
  have hRc : h.1 MO 59 = nI (nR (mo h)) := hw.r.1
  have hRb := hw.r.2
  have hG : h.1 MO 60 = nI (nGf (mo h)) := hw.g.1
  have hGb := hw.g.2
  have hA : h.1 MO 70 = nI (nA (mo h)) := hw.a.1
  have hAb := hw.a.2
  have hTl : h.1 MO 1 = nI (nTl (mo h)) := hw.tl.1
  have hTlb := hw.tl.2
  intro n
  induction n with
  | zero =>
    intro t h1 h2
    refine g_iload_n (pc' := 5) dX12_thereOf_4 rfl rfl ?_
    refine g_aload_n (pc' := 6) dX12_thereOf_5 rfl rfl ?_
    refine g_getIv (v := nI (nT (mo h))) (pc' := 9) (k := 4) dX12_thereOf_6 rfl rfl ck_13 (by decide) fl_X12_211 rfl (hT) ?_
    refine g_icmp_geN (tgt := 54) (pc' := 12) dX12_thereOf_9 rfl (by decide) (by omega) (by omega) (fun c9 => ?_) (fun c9 => ?_)
    ·
      refine g_iload_n (pc' := 55) dX12_thereOf_54 rfl rfl ?_
      refine g_iret dX12_thereOf_55 rfl (by decide) (by decide) ?_
      have e : t = nT (mo h) := by omega
      subst e
      exact hQ
    · exact absurd c9 (by omega)
  | succ n ih =>
    intro t h1 h2
    refine g_iload_n (pc' := 5) dX12_thereOf_4 rfl rfl ?_
    refine g_aload_n (pc' := 6) dX12_thereOf_5 rfl rfl ?_
    refine g_getIv (v := nI (nT (mo h))) (pc' := 9) (k := 4) dX12_thereOf_6 rfl rfl ck_13 (by decide) fl_X12_211 rfl (hT) ?_
    refine g_icmp_geN (tgt := 54) (pc' := 12) dX12_thereOf_9 rfl (by decide) (by omega) (by omega) (fun c9 => ?_) (fun c9 => ?_)
    · exact absurd c9 (by omega)
    ·
      have hkd := (hw.kd (t := t) (by omega)).2
      have hkd := (hw.kd (t := t) (by omega)).2
      refine g_iload_n (pc' := 13) dX12_thereOf_12 rfl rfl ?_
      refine g_aload_n (pc' := 14) dX12_thereOf_13 rfl rfl ?_
      refine g_getS (pc' := 17) (k := 15) (b := (115, 0)) dX12_thereOf_14 rfl rfl ck_13 (by decide) fl_X12_35 rfl hs rfl ?_
      refine g_iload_n (pc' := 18) dX12_thereOf_17 rfl rfl ?_
      refine g_ialdN (pc' := 19) (v := nI (kd (mo h) t)) dX12_thereOf_18 rfl rfl (by decide) (by omega) ((hw.kd (by omega)).1) ?_
      refine g_iload_n (pc' := 20) dX12_thereOf_19 rfl rfl ?_
      refine g_icmp_neN (tgt := 45) (pc' := 23) dX12_thereOf_20 rfl (by decide) (by omega) (by omega) (fun c20 => ?_) (fun c20 => ?_)
      ·
        refine g_iconstN (n := 0) (pc' := 46) dX12_thereOf_45 rfl ?_
        refine g_iaddN (pc' := 47) dX12_thereOf_46 rfl ?_
        refine g_istore_n (pc' := 48) dX12_thereOf_47 rfl (by decide) rfl ?_
        try simp only [List.set]
        refine g_iincN (k := 1) (pc' := 51) dX12_thereOf_48 rfl rfl (by decide) rfl ?_
        try simp only [List.set]
        refine g_goto (tgt := 4) dX12_thereOf_51 (by decide) ?_
        have q := ih (t + 1) (by omega) (by omega)
        rw [cnt_f (p := (fun t => kd (mo h) t = k ∧ mo h 118 t < nI 2 ∧ ¬ isRec (mo h) t)) (fun z => c20 z.1)] at q
        exact q
      ·
        refine g_aload_n (pc' := 24) dX12_thereOf_23 rfl rfl ?_
        refine g_getS (pc' := 27) (k := 18) (b := (118, 0)) dX12_thereOf_24 rfl rfl ck_13 (by decide) fl_X12_44 rfl hs rfl ?_
        refine g_iload_n (pc' := 28) dX12_thereOf_27 rfl rfl ?_
        refine g_ialdN (pc' := 29) (v := _) dX12_thereOf_28 rfl rfl (by decide) (by omega) (rfl) ?_
        refine g_iconstN (n := 2) (pc' := 30) dX12_thereOf_29 rfl ?_
        refine g_icmp_ge (tgt := 45) (pc' := 33) dX12_thereOf_30 rfl (by decide) (fun c30 => ?_) (fun c30 => ?_)
        ·
          refine g_iconstN (n := 0) (pc' := 46) dX12_thereOf_45 rfl ?_
          refine g_iaddN (pc' := 47) dX12_thereOf_46 rfl ?_
          refine g_istore_n (pc' := 48) dX12_thereOf_47 rfl (by decide) rfl ?_
          try simp only [List.set]
          refine g_iincN (k := 1) (pc' := 51) dX12_thereOf_48 rfl rfl (by decide) rfl ?_
          try simp only [List.set]
          refine g_goto (tgt := 4) dX12_thereOf_51 (by decide) ?_
          have q := ih (t + 1) (by omega) (by omega)
          rw [cnt_f (p := (fun t => kd (mo h) t = k ∧ mo h 118 t < nI 2 ∧ ¬ isRec (mo h) t)) (fun z => absurd z.2.1 (Int32.not_lt.mpr c30))] at q
          exact q
        ·
          refine g_aload_n (pc' := 34) dX12_thereOf_33 rfl rfl ?_
          refine g_iload_n (pc' := 35) dX12_thereOf_34 rfl rfl ?_
          refine g_invV (pc' := 38) (cm_isRecalled hok hs hw (t := t) (by omega)) dX12_thereOf_35 rfl rfl ck_13 rfl ml_X12_452 im_X12_isRecalled sl_X12_isRecalled in_X12 co_X12_isRecalled pd_X12_isRecalled rfl (by omega) (by decide) ⟨by decide, by decide⟩ (Nat.le_of_ble_eq_true rfl) ?_
          rintro _ _ ⟨rfl, rfl⟩ -
          refine g_ifB_ne (tgt := 45) (pc' := 41) dX12_thereOf_38 rfl (by decide) (fun c38 => ?_) (fun c38 => ?_)
          ·
            refine g_iconstN (n := 0) (pc' := 46) dX12_thereOf_45 rfl ?_
            refine g_iaddN (pc' := 47) dX12_thereOf_46 rfl ?_
            refine g_istore_n (pc' := 48) dX12_thereOf_47 rfl (by decide) rfl ?_
            try simp only [List.set]
            refine g_iincN (k := 1) (pc' := 51) dX12_thereOf_48 rfl rfl (by decide) rfl ?_
            try simp only [List.set]
            refine g_goto (tgt := 4) dX12_thereOf_51 (by decide) ?_
            have q := ih (t + 1) (by omega) (by omega)
            rw [cnt_f (p := (fun t => kd (mo h) t = k ∧ mo h 118 t < nI 2 ∧ ¬ isRec (mo h) t)) (fun z => z.2.2 c38)] at q
            exact q
          ·
            refine g_iconstN (n := 1) (pc' := 42) dX12_thereOf_41 rfl ?_
            refine g_goto (tgt := 46) dX12_thereOf_42 (by decide) ?_
            refine g_iaddN (pc' := 47) dX12_thereOf_46 rfl ?_
            refine g_istore_n (pc' := 48) dX12_thereOf_47 rfl (by decide) rfl ?_
            try simp only [List.set]
            refine g_iincN (k := 1) (pc' := 51) dX12_thereOf_48 rfl rfl (by decide) rfl ?_
            try simp only [List.set]
            refine g_goto (tgt := 4) dX12_thereOf_51 (by decide) ?_
            have q := ih (t + 1) (by omega) (by omega)
            rw [cnt_t (p := (fun t => kd (mo h) t = k ∧ mo h 118 t < nI 2 ∧ ¬ isRec (mo h) t)) ⟨c20, Int32.not_le.mp c30, c38⟩] at q
            exact q
set_option maxRecDepth 4000 in
theorem cm_thereOf {E : En} (hok : EOK E) {h : Hp} (hs : Shp h.2) (hw : Wf (mo h)) {k : Nat} (hk : k < 8) : Fn E m_X12_thereOf 3 [vR MO, vI (nI k)] h (vI (nI (th (mo h) k))) := by
  have hNw : h.1 MO 2 = nI (nW (mo h)) := hw.w.1
  have hNwb := hw.w.2
  have hC : h.1 MO 30 = nI (nC (mo h)) := hw.c.1
  have hCb := hw.c.2
  have hK : h.1 MO 3 = nI (nK (mo h)) := hw.k.1
  have hKb := hw.k.2
  have hT : h.1 MO 4 = nI (nT (mo h)) := hw.t.1
  have hTb := hw.t.2
  have hF : h.1 MO 5 = nI (nF (mo h)) := hw.f.1
  have hFb := hw.f.2
  have hRc : h.1 MO 59 = nI (nR (mo h)) := hw.r.1
  have hRb := hw.r.2
  have hG : h.1 MO 60 = nI (nGf (mo h)) := hw.g.1
  have hGb := hw.g.2
  have hA : h.1 MO 70 = nI (nA (mo h)) := hw.a.1
  have hAb := hw.a.2
  have hTl : h.1 MO 1 = nI (nTl (mo h)) := hw.tl.1
  have hTlb := hw.tl.2
  refine Call.enter hok (by decide) (Nat.le_of_ble_eq_true rfl) ?_
  show G E m_X12_thereOf 3 0 0 _ h 0 [some (vR MO), some (vI (nI k)), none, none] [] h 0 0
  refine g_iconstN (n := 0) (pc' := 1) dX12_thereOf_0 rfl ?_
  refine g_istore_n (pc' := 2) dX12_thereOf_1 rfl (by decide) rfl ?_
  try simp only [List.set]
  refine g_iconstN (n := 0) (pc' := 3) dX12_thereOf_2 rfl ?_
  refine g_istore_n (pc' := 4) dX12_thereOf_3 rfl (by decide) rfl ?_
  try simp only [List.set]
  exact lm_thereOf hok hs hw hk (Nat.le_refl _) ⟨rfl, rfl⟩ _ 0 (Nat.zero_le _) rfl
set_option maxRecDepth 4000 in
theorem cm_servedOf {E : En} (hok : EOK E) {h : Hp} (hs : Shp h.2) (hw : Wf (mo h)) {k j w : Nat} (hk : k < 8) (hj : j ≤ 3) (hw99 : w ≤ 99) : Fn E m_X12_servedOf 4 [vR MO, vI (nI k), vI (nI j), vI (nI w)] h (vI (nI (sv (mo h) w k j))) := by
  have hNw : h.1 MO 2 = nI (nW (mo h)) := hw.w.1
  have hNwb := hw.w.2
  have hC : h.1 MO 30 = nI (nC (mo h)) := hw.c.1
  have hCb := hw.c.2
  have hK : h.1 MO 3 = nI (nK (mo h)) := hw.k.1
  have hKb := hw.k.2
  have hT : h.1 MO 4 = nI (nT (mo h)) := hw.t.1
  have hTb := hw.t.2
  have hF : h.1 MO 5 = nI (nF (mo h)) := hw.f.1
  have hFb := hw.f.2
  have hRc : h.1 MO 59 = nI (nR (mo h)) := hw.r.1
  have hRb := hw.r.2
  have hG : h.1 MO 60 = nI (nGf (mo h)) := hw.g.1
  have hGb := hw.g.2
  have hA : h.1 MO 70 = nI (nA (mo h)) := hw.a.1
  have hAb := hw.a.2
  have hTl : h.1 MO 1 = nI (nTl (mo h)) := hw.tl.1
  have hTlb := hw.tl.2
  have hth : th (mo h) k ≤ nT (mo h) := cnt_le _ _
  have hml : (th (mo h) k + j) * w ≤ 19 * 99 := Nat.mul_le_mul (by omega) hw99
  have hwf : wfr (mo h) k ≤ nF (mo h) := cnt_le _ _
  refine Call.enter hok (by decide) (Nat.le_of_ble_eq_true rfl) ?_
  show G E m_X12_servedOf 4 0 0 _ h 0 [some (vR MO), some (vI (nI k)), some (vI (nI j)), some (vI (nI w)), none, none] [] h 0 0
  refine g_aload_n (pc' := 1) dX12_servedOf_0 rfl rfl ?_
  refine g_iload_n (pc' := 2) dX12_servedOf_1 rfl rfl ?_
  refine g_invV (pc' := 5) (cm_thereOf hok hs hw (k := k) (by omega)) dX12_servedOf_2 rfl rfl ck_13 rfl ml_X12_523 im_X12_thereOf sl_X12_thereOf in_X12 co_X12_thereOf pd_X12_thereOf rfl (by omega) (by decide) ⟨by decide, by decide⟩ (Nat.le_of_ble_eq_true rfl) ?_
  rintro _ _ ⟨rfl, rfl⟩ -
  refine g_iload_n (pc' := 6) dX12_servedOf_5 rfl rfl ?_
  refine g_iaddN (pc' := 7) dX12_servedOf_6 rfl ?_
  refine g_iload_n (pc' := 8) dX12_servedOf_7 rfl rfl ?_
  refine g_imulN (pc' := 9) dX12_servedOf_8 rfl ?_
  refine g_iconstN (n := 3) (pc' := 10) dX12_servedOf_9 rfl ?_
  refine g_idivN (pc' := 11) dX12_servedOf_10 rfl (by omega) (by omega) (by omega) ?_
  refine g_istore (pc' := 13) dX12_servedOf_11 rfl (by decide) rfl ?_
  try simp only [List.set]
  refine g_aload_n (pc' := 14) dX12_servedOf_13 rfl rfl ?_
  refine g_iload_n (pc' := 15) dX12_servedOf_14 rfl rfl ?_
  refine g_invV (pc' := 18) (cm_waitingFor hok hs hw (k := k) (by omega)) dX12_servedOf_15 rfl rfl ck_13 rfl ml_X12_400 im_X12_waitingFor sl_X12_waitingFor in_X12 co_X12_waitingFor pd_X12_waitingFor rfl (by omega) (by decide) ⟨by decide, by decide⟩ (Nat.le_of_ble_eq_true rfl) ?_
  rintro _ _ ⟨rfl, rfl⟩ -
  refine g_istore (pc' := 20) dX12_servedOf_18 rfl (by decide) rfl ?_
  try simp only [List.set]
  refine g_iload (pc' := 22) dX12_servedOf_20 rfl rfl ?_
  refine g_iload (pc' := 24) dX12_servedOf_22 rfl rfl ?_
  refine g_icmp_geN (tgt := 32) (pc' := 27) dX12_servedOf_24 rfl (by decide) (by omega) (by omega) (fun c24 => ?_) (fun c24 => ?_)
  ·
    refine g_iload (pc' := 34) dX12_servedOf_32 rfl rfl ?_
    refine g_iret dX12_servedOf_34 rfl (by decide) (by decide) ?_
    exact ⟨congrArg (fun z : Nat => some (vI (nI z))) (show _ = sv (mo h) w k j from (cif_f (show ¬ (th (mo h) k + j) * w / 3 < wfr (mo h) k by omega)).symm), rfl⟩
  ·
    refine g_iload (pc' := 29) dX12_servedOf_27 rfl rfl ?_
    refine g_goto (tgt := 34) dX12_servedOf_29 (by decide) ?_
    refine g_iret dX12_servedOf_34 rfl (by decide) (by decide) ?_
    exact ⟨congrArg (fun z : Nat => some (vI (nI z))) (show _ = sv (mo h) w k j from (cif_t (show (th (mo h) k + j) * w / 3 < wfr (mo h) k by omega)).symm), rfl⟩
/-- the reference's row of those served -/
def B8 (h h' : Hp) : Prop := h'.2 = h.2 ∧ ∀ q : Ad, q ≠ (188, 0) → h'.1 q = h.1 q
theorem B8.rf (h : Hp) : B8 h h := ⟨rfl, fun _ _ => rfl⟩
theorem B8.w {h h' : Hp} {j : Nat} {x : Int32} (k : B8 h h') : B8 h (wI h' (188, 0) j x) := ⟨k.1, fun q z => (wI_off h' (188, 0) j x q z).trans (k.2 q z)⟩
theorem B8.mo {h h' : Hp} (k : B8 h h') : mo h' = mo h := mo_same (fun b q => k.2 b (fun z => by rw [z] at q; exact q rfl))
theorem B8.mk {h h' : Hp} (k : B8 h h') : Mk h h' := ⟨k.1, fun a _ h2 => k.2 a (fun z => by rw [z] at h2; exact absurd h2 (by decide))⟩
def SVf (m : St) (w n : Nat) (h : Hp) : Prop := ∀ i, i < n → h.1 (188, 0) i = nI (sv m w (i / 4) (i % 4))
theorem SVf.w {m : St} {w k j : Nat} {h : Hp} (q : SVf m w (4 * k + j) h) (hj : j < 4) : SVf m w (4 * k + (j + 1)) (wI h (188, 0) (4 * k + j) (nI (sv m w k j))) := fun i hi => by
  rw [wI_at]
  by_cases e : i = 4 * k + j
  · rw [if_pos ⟨rfl, e⟩, e, show (4 * k + j) / 4 = k by omega, show (4 * k + j) % 4 = j by omega]
  · rw [if_neg (fun z => e z.2)]
    exact q i (by omega)
set_option maxRecDepth 4000 in
theorem lm_buy2 {E : En} (hok : EOK E) {hb h0 : Hp} {m : St} (hsb : Shp hb.2) (hwm : Wf m) {A w : Nat} (hw99 : w ≤ 99) (x : Int32) {d : Nat} (hd : 5 ≤ d) {Q : Option V → Hp → Prop} {k : Nat} (hk : k < nK m) (hQ : ∀ h, mo h = m → B8 hb h → SVf m w (4 * k + 4) h → G E m_X12_buying d 0 0 Q h0 93 [some (vR MO), some (vI (nI A)), some (vI (nI w)), some (vI x), some (vI (nI k)), none, none, none, none, none, none, none, none] [] h 0 0) : ∀ n j (h : Hp), j ≤ 4 → 4 - j = n → mo h = m → B8 hb h → SVf m w (4 * k + j) h → G E m_X12_buying d 0 0 Q h0 60 [some (vR MO), some (vI (nI A)), some (vI (nI w)), some (vI x), some (vI (nI k)), some (vI (nI j)), none, none, none, none, none, none, none] [] h 0 0 := by
  intro n
  induction n with
  | zero =>
    intro j h h1 h2 hm hb sv_
    subst hm
    have hs : Shp h.2 := by rw [hb.1]; exact hsb
    have hw : Wf (mo h) := hwm
    have hNw : h.1 MO 2 = nI (nW (mo h)) := hw.w.1
    have hNwb := hw.w.2
    have hC : h.1 MO 30 = nI (nC (mo h)) := hw.c.1
    have hCb := hw.c.2
    have hK : h.1 MO 3 = nI (nK (mo h)) := hw.k.1
    have hKb := hw.k.2
    have hT : h.1 MO 4 = nI (nT (mo h)) := hw.t.1
    have hTb := hw.t.2
    have hF : h.1 MO 5 = nI (nF (mo h)) := hw.f.1
    have hFb := hw.f.2
    have hRc : h.1 MO 59 = nI (nR (mo h)) := hw.r.1
    have hRb := hw.r.2
    have hG : h.1 MO 60 = nI (nGf (mo h)) := hw.g.1
    have hGb := hw.g.2
    have hA : h.1 MO 70 = nI (nA (mo h)) := hw.a.1
    have hAb := hw.a.2
    have hTl : h.1 MO 1 = nI (nTl (mo h)) := hw.tl.1
    have hTlb := hw.tl.2
    refine g_iload (pc' := 62) dX12_buying_60 rfl rfl ?_
    refine g_iconstN (n := 4) (pc' := 63) dX12_buying_62 rfl ?_
    refine g_icmp_geN (tgt := 93) (pc' := 66) dX12_buying_63 rfl (by decide) (by omega) (by omega) (fun c63 => ?_) (fun c63 => ?_)
    ·
      have e : j = 4 := by omega
      subst e
      refine G.drop 5 ?_
      simp only [List.set]
      exact hQ h rfl hb sv_
    · exact absurd c63 (by omega)
  | succ n ih =>
    intro j h h1 h2 hm hb sv_
    subst hm
    have hs : Shp h.2 := by rw [hb.1]; exact hsb
    have hw : Wf (mo h) := hwm
    have hNw : h.1 MO 2 = nI (nW (mo h)) := hw.w.1
    have hNwb := hw.w.2
    have hC : h.1 MO 30 = nI (nC (mo h)) := hw.c.1
    have hCb := hw.c.2
    have hK : h.1 MO 3 = nI (nK (mo h)) := hw.k.1
    have hKb := hw.k.2
    have hT : h.1 MO 4 = nI (nT (mo h)) := hw.t.1
    have hTb := hw.t.2
    have hF : h.1 MO 5 = nI (nF (mo h)) := hw.f.1
    have hFb := hw.f.2
    have hRc : h.1 MO 59 = nI (nR (mo h)) := hw.r.1
    have hRb := hw.r.2
    have hG : h.1 MO 60 = nI (nGf (mo h)) := hw.g.1
    have hGb := hw.g.2
    have hA : h.1 MO 70 = nI (nA (mo h)) := hw.a.1
    have hAb := hw.a.2
    have hTl : h.1 MO 1 = nI (nTl (mo h)) := hw.tl.1
    have hTlb := hw.tl.2
    refine g_iload (pc' := 62) dX12_buying_60 rfl rfl ?_
    refine g_iconstN (n := 4) (pc' := 63) dX12_buying_62 rfl ?_
    refine g_icmp_geN (tgt := 93) (pc' := 66) dX12_buying_63 rfl (by decide) (by omega) (by omega) (fun c63 => ?_) (fun c63 => ?_)
    · exact absurd c63 (by omega)
    ·
      refine g_aload_n (pc' := 67) dX12_buying_66 rfl rfl ?_
      refine g_getS (pc' := 70) (k := 88) (b := (188, 0)) dX12_buying_67 rfl rfl ck_13 (by decide) fl_X12_189 rfl hs rfl ?_
      refine g_iconstN (n := 4) (pc' := 71) dX12_buying_70 rfl ?_
      refine g_iload (pc' := 73) dX12_buying_71 rfl rfl ?_
      refine g_imulN (pc' := 74) dX12_buying_73 rfl ?_
      refine g_iload (pc' := 76) dX12_buying_74 rfl rfl ?_
      refine g_iaddN (pc' := 77) dX12_buying_76 rfl ?_
      refine g_aload_n (pc' := 78) dX12_buying_77 rfl rfl ?_
      refine g_iload (pc' := 80) dX12_buying_78 rfl rfl ?_
      refine g_iload (pc' := 82) dX12_buying_80 rfl rfl ?_
      refine g_iload_n (pc' := 83) dX12_buying_82 rfl rfl ?_
      refine g_invV (pc' := 86) (cm_servedOf hok hs hw (k := k) (j := j) (w := w) (by omega) (by omega) (by omega)) dX12_buying_83 rfl rfl ck_13 rfl ml_X12_528 im_X12_servedOf sl_X12_servedOf in_X12 co_X12_servedOf pd_X12_servedOf rfl (by omega) (by decide) ⟨by decide, by decide⟩ (Nat.le_of_ble_eq_true rfl) ?_
      rintro _ _ ⟨rfl, rfl⟩ -
      refine g_iastN (pc' := 87) dX12_buying_86 rfl rfl (by decide) (by omega) ?_
      refine g_iincN (k := 1) (pc' := 90) dX12_buying_87 rfl rfl (by decide) rfl ?_
      try simp only [List.set]
      refine g_goto (tgt := 60) dX12_buying_90 (by decide) ?_
      exact ih (j + 1) _ (by omega) (by omega) (mo_off rfl) hb.w (sv_.w (by omega))
set_option maxRecDepth 4000 in
theorem lm_buy1 {E : En} (hok : EOK E) {hb h0 : Hp} {m : St} (hsb : Shp hb.2) (hwm : Wf m) {A w : Nat} (hw99 : w ≤ 99) (x : Int32) {d : Nat} (hd : 5 ≤ d) {Q : Option V → Hp → Prop} (hQ : ∀ h, mo h = m → B8 hb h → SVf m w (4 * nK m) h → G E m_X12_buying d 0 0 Q h0 99 [some (vR MO), some (vI (nI A)), some (vI (nI w)), some (vI x), none, none, none, none, none, none, none, none, none] [] h 0 0) : ∀ n k (h : Hp), k ≤ nK m → nK m - k = n → mo h = m → B8 hb h → SVf m w (4 * k) h → G E m_X12_buying d 0 0 Q h0 48 [some (vR MO), some (vI (nI A)), some (vI (nI w)), some (vI x), some (vI (nI k)), none, none, none, none, none, none, none, none] [] h 0 0 := by
  intro n
  induction n with
  | zero =>
    intro k h h1 h2 hm hb sv_
    subst hm
    have hs : Shp h.2 := by rw [hb.1]; exact hsb
    have hw : Wf (mo h) := hwm
    have hNw : h.1 MO 2 = nI (nW (mo h)) := hw.w.1
    have hNwb := hw.w.2
    have hC : h.1 MO 30 = nI (nC (mo h)) := hw.c.1
    have hCb := hw.c.2
    have hK : h.1 MO 3 = nI (nK (mo h)) := hw.k.1
    have hKb := hw.k.2
    have hT : h.1 MO 4 = nI (nT (mo h)) := hw.t.1
    have hTb := hw.t.2
    have hF : h.1 MO 5 = nI (nF (mo h)) := hw.f.1
    have hFb := hw.f.2
    have hRc : h.1 MO 59 = nI (nR (mo h)) := hw.r.1
    have hRb := hw.r.2
    have hG : h.1 MO 60 = nI (nGf (mo h)) := hw.g.1
    have hGb := hw.g.2
    have hA : h.1 MO 70 = nI (nA (mo h)) := hw.a.1
    have hAb := hw.a.2
    have hTl : h.1 MO 1 = nI (nTl (mo h)) := hw.tl.1
    have hTlb := hw.tl.2
    refine g_iload (pc' := 50) dX12_buying_48 rfl rfl ?_
    refine g_aload_n (pc' := 51) dX12_buying_50 rfl rfl ?_
    refine g_getIv (v := nI (nK (mo h))) (pc' := 54) (k := 3) dX12_buying_51 rfl rfl ck_13 (by decide) fl_X12_207 rfl (hK) ?_
    refine g_icmp_geN (tgt := 99) (pc' := 57) dX12_buying_54 rfl (by decide) (by omega) (by omega) (fun c54 => ?_) (fun c54 => ?_)
    ·
      have e : k = nK (mo h) := by omega
      subst e
      refine G.drop 4 ?_
      simp only [List.set]
      exact hQ h rfl hb sv_
    · exact absurd c54 (by omega)
  | succ n ih =>
    intro k h h1 h2 hm hb sv_
    subst hm
    have hs : Shp h.2 := by rw [hb.1]; exact hsb
    have hw : Wf (mo h) := hwm
    have hNw : h.1 MO 2 = nI (nW (mo h)) := hw.w.1
    have hNwb := hw.w.2
    have hC : h.1 MO 30 = nI (nC (mo h)) := hw.c.1
    have hCb := hw.c.2
    have hK : h.1 MO 3 = nI (nK (mo h)) := hw.k.1
    have hKb := hw.k.2
    have hT : h.1 MO 4 = nI (nT (mo h)) := hw.t.1
    have hTb := hw.t.2
    have hF : h.1 MO 5 = nI (nF (mo h)) := hw.f.1
    have hFb := hw.f.2
    have hRc : h.1 MO 59 = nI (nR (mo h)) := hw.r.1
    have hRb := hw.r.2
    have hG : h.1 MO 60 = nI (nGf (mo h)) := hw.g.1
    have hGb := hw.g.2
    have hA : h.1 MO 70 = nI (nA (mo h)) := hw.a.1
    have hAb := hw.a.2
    have hTl : h.1 MO 1 = nI (nTl (mo h)) := hw.tl.1
    have hTlb := hw.tl.2
    refine g_iload (pc' := 50) dX12_buying_48 rfl rfl ?_
    refine g_aload_n (pc' := 51) dX12_buying_50 rfl rfl ?_
    refine g_getIv (v := nI (nK (mo h))) (pc' := 54) (k := 3) dX12_buying_51 rfl rfl ck_13 (by decide) fl_X12_207 rfl (hK) ?_
    refine g_icmp_geN (tgt := 99) (pc' := 57) dX12_buying_54 rfl (by decide) (by omega) (by omega) (fun c54 => ?_) (fun c54 => ?_)
    · exact absurd c54 (by omega)
    ·
      refine g_iconstN (n := 0) (pc' := 58) dX12_buying_57 rfl ?_
      refine g_istore (pc' := 60) dX12_buying_58 rfl (by decide) rfl ?_
      try simp only [List.set]
      refine lm_buy2 hok hsb hwm hw99 x hd (by omega) (fun h3 hm3 hb3 sv3 => ?_) _ 0 h (Nat.zero_le _) rfl rfl hb sv_
      have hs3 : Shp h3.2 := by rw [hb3.1]; exact hsb
      refine g_iincN (k := 1) (pc' := 96) dX12_buying_93 rfl rfl (by decide) rfl ?_
      try simp only [List.set]
      refine g_goto (tgt := 48) dX12_buying_96 (by decide) ?_
      exact ih (k + 1) h3 (by omega) (by omega) hm3 hb3 sv3
set_option maxRecDepth 4000 in
theorem lm_buy4 {E : En} (hok : EOK E) {h h0 : Hp} (hs : Shp h.2) (hw : Wf (mo h)) (hx : Wx (mo h)) {A w : Nat} (hA6 : A ≤ 60000) (hsv : SVf (mo h) w (4 * nK (mo h)) h) (x : Int32) {y : Nat} (hy : y < 65536) (p4 p5 p6 p7 : Int32) {d : Nat} (hd : 0 ≤ d) {Q : Option V → Hp → Prop} (hQ : G E m_X12_buying d 0 0 Q h0 201 [some (vR MO), some (vI (nI A)), some (vI (nI w)), some (vI x), some (vI p4), some (vI p5), some (vI p6), some (vI p7), some (vI (nI y)), some (vI (nI (sX (mo h) w y))), some (vI (nI (pX (mo h) y))), none, none] [] h 0 0) : ∀ n k : Nat, k ≤ nK (mo h) → nK (mo h) - k = n → G E m_X12_buying d 0 0 Q h0 136 [some (vR MO), some (vI (nI A)), some (vI (nI w)), some (vI x), some (vI p4), some (vI p5), some (vI p6), some (vI p7), some (vI (nI y)), some (vI (nI (preS (mo h) w k y))), some (vI (nI (preC (mo h) k y))), some (vI (nI k)), none] [] (h) 0 0 := by
  have hNw : h.1 MO 2 = nI (nW (mo h)) := hw.w.1
  have hNwb := hw.w.2
  have hC : h.1 MO 30 = nI (nC (mo h)) := hw.c.1
  have hCb := hw.c.2
  have hK : h.1 MO 3 = nI (nK (mo h)) := hw.k.1
  have hKb := hw.k.2
  have hT : h.1 MO 4 = nI (nT (mo h)) := hw.t.1
  have hTb := hw.t.2
  have hF : h.1 MO 5 = nI (nF (mo h)) := hw.f.1
  have hFb := hw.f.2
  have hRc : h.1 MO 59 = nI (nR (mo h)) := hw.r.1
  have hRb := hw.r.2
  have hG : h.1 MO 60 = nI (nGf (mo h)) := hw.g.1
  have hGb := hw.g.2
  have hA : h.1 MO 70 = nI (nA (mo h)) := hw.a.1
  have hAb := hw.a.2
  have hTl : h.1 MO 1 = nI (nTl (mo h)) := hw.tl.1
  have hTlb := hw.tl.2
  intro n
  induction n with
  | zero =>
    intro k h1 h2
    refine g_iload (pc' := 138) dX12_buying_136 rfl rfl ?_
    refine g_aload_n (pc' := 139) dX12_buying_138 rfl rfl ?_
    refine g_getIv (v := nI (nK (mo h))) (pc' := 142) (k := 3) dX12_buying_139 rfl rfl ck_13 (by decide) fl_X12_207 rfl (hK) ?_
    refine g_icmp_geN (tgt := 201) (pc' := 145) dX12_buying_142 rfl (by decide) (by omega) (by omega) (fun c142 => ?_) (fun c142 => ?_)
    ·
      have e : k = nK (mo h) := by omega
      subst e
      refine G.drop 11 ?_
      simp only [List.set]
      exact hQ
    · exact absurd c142 (by omega)
  | succ n ih =>
    intro k h1 h2
    refine g_iload (pc' := 138) dX12_buying_136 rfl rfl ?_
    refine g_aload_n (pc' := 139) dX12_buying_138 rfl rfl ?_
    refine g_getIv (v := nI (nK (mo h))) (pc' := 142) (k := 3) dX12_buying_139 rfl rfl ck_13 (by decide) fl_X12_207 rfl (hK) ?_
    refine g_icmp_geN (tgt := 201) (pc' := 145) dX12_buying_142 rfl (by decide) (by omega) (by omega) (fun c142 => ?_) (fun c142 => ?_)
    · exact absurd c142 (by omega)
    ·
      refine g_iload (pc' := 147) dX12_buying_145 rfl rfl ?_
      refine g_iconstN (n := 2) (pc' := 148) dX12_buying_147 rfl ?_
      refine g_aload_n (pc' := 149) dX12_buying_148 rfl rfl ?_
      refine g_getIv (v := nI (nK (mo h))) (pc' := 152) (k := 3) dX12_buying_149 rfl rfl ck_13 (by decide) fl_X12_207 rfl (hK) ?_
      refine g_iconstN (n := 1) (pc' := 153) dX12_buying_152 rfl ?_
      refine g_isubN (pc' := 154) dX12_buying_153 rfl (by omega) ?_
      refine g_iload (pc' := 156) dX12_buying_154 rfl rfl ?_
      refine g_isubN (pc' := 157) dX12_buying_156 rfl (by omega) ?_
      refine g_imulN (pc' := 158) dX12_buying_157 rfl ?_
      refine g_ishr (pc' := 159) dX12_buying_158 rfl ?_
      refine g_iconstN (n := 3) (pc' := 160) dX12_buying_159 rfl ?_
      refine g_iand (pc' := 161) dX12_buying_160 rfl ?_
      rw [shr_d hKb (by omega)]
      have hdl := dg_lt (nK (mo h)) k y
      refine g_istore (pc' := 163) dX12_buying_161 rfl (by decide) rfl ?_
      try simp only [List.set]
      refine g_iload (pc' := 165) dX12_buying_163 rfl rfl ?_
      refine g_aload_n (pc' := 166) dX12_buying_165 rfl rfl ?_
      refine g_getS (pc' := 169) (k := 88) (b := (188, 0)) dX12_buying_166 rfl rfl ck_13 (by decide) fl_X12_189 rfl hs rfl ?_
      refine g_iconstN (n := 4) (pc' := 170) dX12_buying_169 rfl ?_
      refine g_iload (pc' := 172) dX12_buying_170 rfl rfl ?_
      refine g_imulN (pc' := 173) dX12_buying_172 rfl ?_
      refine g_iload (pc' := 175) dX12_buying_173 rfl rfl ?_
      refine g_iaddN (pc' := 176) dX12_buying_175 rfl ?_
      refine g_ialdN (pc' := 177) (v := nI (sv (mo h) w k (dg (nK (mo h)) k y))) dX12_buying_176 rfl rfl (by decide) (by omega) ((hsv _ (by omega)).trans (by rw [show (4 * k + dg (nK (mo h)) k y) / 4 = k by omega, show (4 * k + dg (nK (mo h)) k y) % 4 = dg (nK (mo h)) k y by omega])) ?_
      refine g_iaddN (pc' := 178) dX12_buying_177 rfl ?_
      refine g_istore (pc' := 180) dX12_buying_178 rfl (by decide) rfl ?_
      try simp only [List.set]
      refine g_iload (pc' := 182) dX12_buying_180 rfl rfl ?_
      refine g_iload (pc' := 184) dX12_buying_182 rfl rfl ?_
      refine g_aload_n (pc' := 185) dX12_buying_184 rfl rfl ?_
      refine g_getS (pc' := 188) (k := 9) (b := (109, 0)) dX12_buying_185 rfl rfl ck_13 (by decide) fl_X12_17 rfl hs rfl ?_
      refine g_iload (pc' := 190) dX12_buying_188 rfl rfl ?_
      refine g_ialdN (pc' := 191) (v := nI (prN (mo h) k)) dX12_buying_190 rfl rfl (by decide) (by omega) ((pr_n hx (by omega)).1) ?_
      refine g_imulN (pc' := 192) dX12_buying_191 rfl ?_
      refine g_iaddN (pc' := 193) dX12_buying_192 rfl ?_
      refine g_istore (pc' := 195) dX12_buying_193 rfl (by decide) rfl ?_
      try simp only [List.set]
      refine g_iincN (k := 1) (pc' := 198) dX12_buying_195 rfl rfl (by decide) rfl ?_
      try simp only [List.set]
      refine g_goto (tgt := 136) dX12_buying_198 (by decide) ?_
      refine G.drop 12 ?_
      simp only [List.set]
      exact ih (k + 1) (by omega) (by omega)
set_option maxRecDepth 4000 in
theorem lm_buy3 {E : En} (hok : EOK E) {h h0 : Hp} (hs : Shp h.2) (hw : Wf (mo h)) (hx : Wx (mo h)) {A w : Nat} (hA6 : A ≤ 60000) (hsv : SVf (mo h) w (4 * nK (mo h)) h) (x : Int32) (hxq : x = -1 ∨ x = nI 8 ∨ ∃ j : Nat, j < nK (mo h) ∧ x = nI j) {d : Nat} (hd : 0 ≤ d) {Q : Option V → Hp → Prop} (hQ : Q (some (vI (buA (mo h) w A x))) h) : ∀ n y : Nat, y ≤ q4 (nK (mo h)) → q4 (nK (mo h)) - y = n → (1 ≤ y) → G E m_X12_buying d 0 0 Q h0 114 [some (vR MO), some (vI (nI A)), some (vI (nI w)), some (vI x), some (vI (nI (buF (mo h) w A y).1)), some (vI (nI (buF (mo h) w A y).2.1)), some (vI (nI (buF (mo h) w A y).2.2)), some (vI (nI (sX (mo h) w 0))), some (vI (nI y)), none, none, none, none] [] (h) 0 0 := by
  have hNw : h.1 MO 2 = nI (nW (mo h)) := hw.w.1
  have hNwb := hw.w.2
  have hC : h.1 MO 30 = nI (nC (mo h)) := hw.c.1
  have hCb := hw.c.2
  have hK : h.1 MO 3 = nI (nK (mo h)) := hw.k.1
  have hKb := hw.k.2
  have hT : h.1 MO 4 = nI (nT (mo h)) := hw.t.1
  have hTb := hw.t.2
  have hF : h.1 MO 5 = nI (nF (mo h)) := hw.f.1
  have hFb := hw.f.2
  have hRc : h.1 MO 59 = nI (nR (mo h)) := hw.r.1
  have hRb := hw.r.2
  have hG : h.1 MO 60 = nI (nGf (mo h)) := hw.g.1
  have hGb := hw.g.2
  have hA : h.1 MO 70 = nI (nA (mo h)) := hw.a.1
  have hAb := hw.a.2
  have hTl : h.1 MO 1 = nI (nTl (mo h)) := hw.tl.1
  have hTlb := hw.tl.2
  have hp2 := q4_8 hKb
  intro n
  induction n with
  | zero =>
    intro y h1 h2 hi
    have hml := bu_bd hw hx w A (x := y) (by omega)
    obtain ⟨hm1, hm2, hm3⟩ := hml
    refine g_iload (pc' := 116) dX12_buying_114 rfl rfl ?_
    refine g_iconstN (n := 1) (pc' := 117) dX12_buying_116 rfl ?_
    refine g_iconstN (n := 2) (pc' := 118) dX12_buying_117 rfl ?_
    refine g_aload_n (pc' := 119) dX12_buying_118 rfl rfl ?_
    refine g_getIv (v := nI (nK (mo h))) (pc' := 122) (k := 3) dX12_buying_119 rfl rfl ck_13 (by decide) fl_X12_207 rfl (hK) ?_
    refine g_imulN (pc' := 123) dX12_buying_122 rfl ?_
    refine g_ishl (pc' := 124) dX12_buying_123 rfl ?_
    rw [shl_p2 (by omega), ← q4_p2]
    refine g_icmp_geN (tgt := 263) (pc' := 127) dX12_buying_124 rfl (by decide) (by omega) (by omega) (fun c124 => ?_) (fun c124 => ?_)
    ·
      refine g_iload_n (pc' := 264) dX12_buying_263 rfl rfl ?_
      refine g_iconst (v := -1) (pc' := 265) dX12_buying_264 rfl (by decide) ?_
      refine g_icmp_ne (tgt := 276) (pc' := 268) dX12_buying_265 rfl (by decide) (fun c265 => ?_) (fun c265 => ?_)
      ·
        refine g_iload_n (pc' := 277) dX12_buying_276 rfl rfl ?_
        refine g_bipushN (n := 8) (pc' := 279) dX12_buying_277 rfl (by decide) ?_
        refine g_icmp_ne (tgt := 287) (pc' := 282) dX12_buying_279 rfl (by decide) (fun c279 => ?_) (fun c279 => ?_)
        ·
          have e : y = q4 (nK (mo h)) := by omega
          subst e
          obtain ⟨k, hk, rfl⟩ := (hxq.resolve_left c265).resolve_left c279
          refine g_iload (pc' := 289) dX12_buying_287 rfl rfl ?_
          refine g_iconstN (n := 2) (pc' := 290) dX12_buying_289 rfl ?_
          refine g_aload_n (pc' := 291) dX12_buying_290 rfl rfl ?_
          refine g_getIv (v := nI (nK (mo h))) (pc' := 294) (k := 3) dX12_buying_291 rfl rfl ck_13 (by decide) fl_X12_207 rfl (hK) ?_
          refine g_iconstN (n := 1) (pc' := 295) dX12_buying_294 rfl ?_
          refine g_isubN (pc' := 296) dX12_buying_295 rfl (by omega) ?_
          refine g_iload_n (pc' := 297) dX12_buying_296 rfl rfl ?_
          refine g_isubN (pc' := 298) dX12_buying_297 rfl (by omega) ?_
          refine g_imulN (pc' := 299) dX12_buying_298 rfl ?_
          refine g_ishr (pc' := 300) dX12_buying_299 rfl ?_
          refine g_iconstN (n := 3) (pc' := 301) dX12_buying_300 rfl ?_
          refine g_iand (pc' := 302) dX12_buying_301 rfl ?_
          refine g_iret dX12_buying_302 rfl (by decide) (by decide) ?_
          rw [show buA (mo h) w A (nI k) = _ from (cif_f c265).trans ((cif_f c279).trans (by rw [nI_clamp (by omega)]))] at hQ
          rw [shr_d hKb (by omega)]
          exact hQ
        ·
          refine g_iload (pc' := 284) dX12_buying_282 rfl rfl ?_
          refine g_goto (tgt := 302) dX12_buying_284 (by decide) ?_
          refine g_iret dX12_buying_302 rfl (by decide) (by decide) ?_
          have e : y = q4 (nK (mo h)) := by omega
          subst e
          rw [show buA (mo h) w A x = _ from (cif_f c265).trans (cif_t c279)] at hQ
          exact hQ
      ·
        refine g_iload (pc' := 270) dX12_buying_268 rfl rfl ?_
        refine g_iload (pc' := 272) dX12_buying_270 rfl rfl ?_
        refine g_isub (pc' := 273) dX12_buying_272 rfl ?_
        refine g_goto (tgt := 302) dX12_buying_273 (by decide) ?_
        refine g_iret dX12_buying_302 rfl (by decide) (by decide) ?_
        have e : y = q4 (nK (mo h)) := by omega
        subst e
        rw [show buA (mo h) w A x = _ from cif_t c265] at hQ
        exact hQ
    · exact absurd c124 (by omega)
  | succ n ih =>
    intro y h1 h2 hi
    have hml := bu_bd hw hx w A (x := y) (by omega)
    obtain ⟨hm1, hm2, hm3⟩ := hml
    refine g_iload (pc' := 116) dX12_buying_114 rfl rfl ?_
    refine g_iconstN (n := 1) (pc' := 117) dX12_buying_116 rfl ?_
    refine g_iconstN (n := 2) (pc' := 118) dX12_buying_117 rfl ?_
    refine g_aload_n (pc' := 119) dX12_buying_118 rfl rfl ?_
    refine g_getIv (v := nI (nK (mo h))) (pc' := 122) (k := 3) dX12_buying_119 rfl rfl ck_13 (by decide) fl_X12_207 rfl (hK) ?_
    refine g_imulN (pc' := 123) dX12_buying_122 rfl ?_
    refine g_ishl (pc' := 124) dX12_buying_123 rfl ?_
    rw [shl_p2 (by omega), ← q4_p2]
    refine g_icmp_geN (tgt := 263) (pc' := 127) dX12_buying_124 rfl (by decide) (by omega) (by omega) (fun c124 => ?_) (fun c124 => ?_)
    · exact absurd c124 (by omega)
    ·
      refine g_iconstN (n := 0) (pc' := 128) dX12_buying_127 rfl ?_
      refine g_istore (pc' := 130) dX12_buying_128 rfl (by decide) rfl ?_
      try simp only [List.set]
      refine g_iconstN (n := 0) (pc' := 131) dX12_buying_130 rfl ?_
      refine g_istore (pc' := 133) dX12_buying_131 rfl (by decide) rfl ?_
      try simp only [List.set]
      refine g_iconstN (n := 0) (pc' := 134) dX12_buying_133 rfl ?_
      refine g_istore (pc' := 136) dX12_buying_134 rfl (by decide) rfl ?_
      try simp only [List.set]
      have hsl : sX (mo h) w y ≤ 80 := preS_le hw (Nat.le_refl _)
      have hpl : pX (mo h) y ≤ 480000 := preC_le hw hx (Nat.le_refl _)
      refine lm_buy4 hok hs hw hx hA6 hsv x (by omega) _ _ _ _ (Nat.zero_le _) ?_ _ 0 (Nat.zero_le _) rfl
      refine g_iload (pc' := 203) dX12_buying_201 rfl rfl ?_
      refine g_if_neN (tgt := 211) (pc' := 206) dX12_buying_203 rfl (by decide) (by omega) (fun c203 => ?_) (fun c203 => ?_)
      ·
        refine g_iload (pc' := 213) dX12_buying_211 rfl rfl ?_
        refine g_istore (pc' := 215) dX12_buying_213 rfl (by decide) rfl ?_
        try simp only [List.set]
        refine g_iload (pc' := 217) dX12_buying_215 rfl rfl ?_
        refine g_iload_n (pc' := 218) dX12_buying_217 rfl rfl ?_
        refine g_icmp_gtN (tgt := 257) (pc' := 221) dX12_buying_218 rfl (by decide) (by omega) (by omega) (fun c218 => ?_) (fun c218 => ?_)
        ·
          refine g_iincN (k := 1) (pc' := 260) dX12_buying_257 rfl rfl (by decide) rfl ?_
          try simp only [List.set]
          refine g_goto (tgt := 114) dX12_buying_260 (by decide) ?_
          refine G.drop 9 ?_
          refine G.drop 10 ?_
          simp only [List.set]
          have q := ih (y + 1) (by omega) (by omega) (by omega)
          rw [bu_s, show stB (mo h) w A (buF (mo h) w A y) y = _ from cif_f (fun z => by have := z.1; omega)] at q
          exact q
        ·
          refine g_iload (pc' := 223) dX12_buying_221 rfl rfl ?_
          refine g_iload (pc' := 225) dX12_buying_223 rfl rfl ?_
          refine g_icmp_ltN (tgt := 257) (pc' := 228) dX12_buying_225 rfl (by decide) (by omega) (by omega) (fun c225 => ?_) (fun c225 => ?_)
          ·
            refine g_iincN (k := 1) (pc' := 260) dX12_buying_257 rfl rfl (by decide) rfl ?_
            try simp only [List.set]
            refine g_goto (tgt := 114) dX12_buying_260 (by decide) ?_
            refine G.drop 9 ?_
            refine G.drop 10 ?_
            simp only [List.set]
            have q := ih (y + 1) (by omega) (by omega) (by omega)
            rw [bu_s, show stB (mo h) w A (buF (mo h) w A y) y = _ from cif_f (fun z => z.2 (Or.inl (by omega)))] at q
            exact q
          ·
            refine g_iload (pc' := 230) dX12_buying_228 rfl rfl ?_
            refine g_iload (pc' := 232) dX12_buying_230 rfl rfl ?_
            refine g_icmp_neN (tgt := 245) (pc' := 235) dX12_buying_232 rfl (by decide) (by omega) (by omega) (fun c232 => ?_) (fun c232 => ?_)
            ·
              refine g_iload (pc' := 247) dX12_buying_245 rfl rfl ?_
              refine g_istore (pc' := 249) dX12_buying_247 rfl (by decide) rfl ?_
              try simp only [List.set]
              refine g_iload (pc' := 251) dX12_buying_249 rfl rfl ?_
              refine g_istore (pc' := 253) dX12_buying_251 rfl (by decide) rfl ?_
              try simp only [List.set]
              refine g_iload (pc' := 255) dX12_buying_253 rfl rfl ?_
              refine g_istore (pc' := 257) dX12_buying_255 rfl (by decide) rfl ?_
              try simp only [List.set]
              refine g_iincN (k := 1) (pc' := 260) dX12_buying_257 rfl rfl (by decide) rfl ?_
              try simp only [List.set]
              refine g_goto (tgt := 114) dX12_buying_260 (by decide) ?_
              refine G.drop 9 ?_
              refine G.drop 10 ?_
              simp only [List.set]
              have q := ih (y + 1) (by omega) (by omega) (by omega)
              rw [bu_s, show stB (mo h) w A (buF (mo h) w A y) y = _ from cif_t ⟨by omega, fun z => by omega⟩] at q
              exact q
            ·
              refine g_iload (pc' := 237) dX12_buying_235 rfl rfl ?_
              refine g_iload (pc' := 239) dX12_buying_237 rfl rfl ?_
              refine g_icmp_ltN (tgt := 245) (pc' := 242) dX12_buying_239 rfl (by decide) (by omega) (by omega) (fun c239 => ?_) (fun c239 => ?_)
              ·
                refine g_iload (pc' := 247) dX12_buying_245 rfl rfl ?_
                refine g_istore (pc' := 249) dX12_buying_247 rfl (by decide) rfl ?_
                try simp only [List.set]
                refine g_iload (pc' := 251) dX12_buying_249 rfl rfl ?_
                refine g_istore (pc' := 253) dX12_buying_251 rfl (by decide) rfl ?_
                try simp only [List.set]
                refine g_iload (pc' := 255) dX12_buying_253 rfl rfl ?_
                refine g_istore (pc' := 257) dX12_buying_255 rfl (by decide) rfl ?_
                try simp only [List.set]
                refine g_iincN (k := 1) (pc' := 260) dX12_buying_257 rfl rfl (by decide) rfl ?_
                try simp only [List.set]
                refine g_goto (tgt := 114) dX12_buying_260 (by decide) ?_
                refine G.drop 9 ?_
                refine G.drop 10 ?_
                simp only [List.set]
                have q := ih (y + 1) (by omega) (by omega) (by omega)
                rw [bu_s, show stB (mo h) w A (buF (mo h) w A y) y = _ from cif_t ⟨by omega, fun z => by omega⟩] at q
                exact q
              ·
                refine g_goto (tgt := 257) dX12_buying_242 (by decide) ?_
                refine g_iincN (k := 1) (pc' := 260) dX12_buying_257 rfl rfl (by decide) rfl ?_
                try simp only [List.set]
                refine g_goto (tgt := 114) dX12_buying_260 (by decide) ?_
                refine G.drop 9 ?_
                refine G.drop 10 ?_
                simp only [List.set]
                have q := ih (y + 1) (by omega) (by omega) (by omega)
                rw [bu_s, show stB (mo h) w A (buF (mo h) w A y) y = _ from cif_f (fun z => z.2 (Or.inr ⟨by omega, by omega⟩))] at q
                exact q
      · exact absurd c203 (by omega)
set_option maxRecDepth 4000 in
theorem lm_buy0 {E : En} (hok : EOK E) {h h0 : Hp} (hs : Shp h.2) (hw : Wf (mo h)) (hx : Wx (mo h)) {A w : Nat} (hA6 : A ≤ 60000) (hsv : SVf (mo h) w (4 * nK (mo h)) h) (x : Int32) (hxq : x = -1 ∨ x = nI 8 ∨ ∃ j : Nat, j < nK (mo h) ∧ x = nI j) {d : Nat} (hd : 0 ≤ d) {Q : Option V → Hp → Prop} (hQ : Q (some (vI (buA (mo h) w A x))) h) : G E m_X12_buying d 0 0 Q h0 99 [some (vR MO), some (vI (nI A)), some (vI (nI w)), some (vI x), none, none, none, none, none, none, none, none, none] [] h 0 0 := by
  have hNw : h.1 MO 2 = nI (nW (mo h)) := hw.w.1
  have hNwb := hw.w.2
  have hC : h.1 MO 30 = nI (nC (mo h)) := hw.c.1
  have hCb := hw.c.2
  have hK : h.1 MO 3 = nI (nK (mo h)) := hw.k.1
  have hKb := hw.k.2
  have hT : h.1 MO 4 = nI (nT (mo h)) := hw.t.1
  have hTb := hw.t.2
  have hF : h.1 MO 5 = nI (nF (mo h)) := hw.f.1
  have hFb := hw.f.2
  have hRc : h.1 MO 59 = nI (nR (mo h)) := hw.r.1
  have hRb := hw.r.2
  have hG : h.1 MO 60 = nI (nGf (mo h)) := hw.g.1
  have hGb := hw.g.2
  have hA : h.1 MO 70 = nI (nA (mo h)) := hw.a.1
  have hAb := hw.a.2
  have hTl : h.1 MO 1 = nI (nTl (mo h)) := hw.tl.1
  have hTlb := hw.tl.2
  have hp2 := q4_8 hKb
  have hqp := q4_pos (nK (mo h))
  refine g_iconstN (n := 0) (pc' := 100) dX12_buying_99 rfl ?_
  refine g_istore (pc' := 102) dX12_buying_100 rfl (by decide) rfl ?_
  try simp only [List.set]
  refine g_iconst (v := -1) (pc' := 103) dX12_buying_102 rfl (by decide) ?_
  refine g_istore (pc' := 105) dX12_buying_103 rfl (by decide) rfl ?_
  try simp only [List.set]
  refine g_iconstN (n := 0) (pc' := 106) dX12_buying_105 rfl ?_
  refine g_istore (pc' := 108) dX12_buying_106 rfl (by decide) rfl ?_
  try simp only [List.set]
  refine g_iconstN (n := 0) (pc' := 109) dX12_buying_108 rfl ?_
  refine g_istore (pc' := 111) dX12_buying_109 rfl (by decide) rfl ?_
  try simp only [List.set]
  refine g_iconstN (n := 0) (pc' := 112) dX12_buying_111 rfl ?_
  refine g_istore (pc' := 114) dX12_buying_112 rfl (by decide) rfl ?_
  try simp only [List.set]
  refine g_iload (pc' := 116) dX12_buying_114 rfl rfl ?_
  refine g_iconstN (n := 1) (pc' := 117) dX12_buying_116 rfl ?_
  refine g_iconstN (n := 2) (pc' := 118) dX12_buying_117 rfl ?_
  refine g_aload_n (pc' := 119) dX12_buying_118 rfl rfl ?_
  refine g_getIv (v := nI (nK (mo h))) (pc' := 122) (k := 3) dX12_buying_119 rfl rfl ck_13 (by decide) fl_X12_207 rfl (hK) ?_
  refine g_imulN (pc' := 123) dX12_buying_122 rfl ?_
  refine g_ishl (pc' := 124) dX12_buying_123 rfl ?_
  rw [shl_p2 (by omega), ← q4_p2]
  refine g_icmp_geN (tgt := 263) (pc' := 127) dX12_buying_124 rfl (by decide) (by omega) (by omega) (fun c124 => ?_) (fun c124 => ?_)
  · exact absurd c124 (by omega)
  ·
    refine g_iconstN (n := 0) (pc' := 128) dX12_buying_127 rfl ?_
    refine g_istore (pc' := 130) dX12_buying_128 rfl (by decide) rfl ?_
    try simp only [List.set]
    refine g_iconstN (n := 0) (pc' := 131) dX12_buying_130 rfl ?_
    refine g_istore (pc' := 133) dX12_buying_131 rfl (by decide) rfl ?_
    try simp only [List.set]
    refine g_iconstN (n := 0) (pc' := 134) dX12_buying_133 rfl ?_
    refine g_istore (pc' := 136) dX12_buying_134 rfl (by decide) rfl ?_
    try simp only [List.set]
    have hsl : sX (mo h) w 0 ≤ 80 := preS_le hw (Nat.le_refl _)
    refine lm_buy4 hok hs hw hx hA6 hsv x (y := 0) (by decide) _ _ _ _ (Nat.zero_le _) ?_ _ 0 (Nat.zero_le _) rfl
    rw [pX_0]
    refine g_iload (pc' := 203) dX12_buying_201 rfl rfl ?_
    refine g_if_neN (tgt := 211) (pc' := 206) dX12_buying_203 rfl (by decide) (by decide) (fun q => False.elim (by revert q; decide)) (fun _ => ?_)
    refine g_iload (pc' := 208) dX12_buying_206 rfl rfl ?_
    refine g_goto (tgt := 213) dX12_buying_208 (by decide) ?_
    refine g_istore (pc' := 215) dX12_buying_213 rfl (by decide) rfl ?_
    try simp only [List.set]
    refine g_iload (pc' := 217) dX12_buying_215 rfl rfl ?_
    refine g_iload_n (pc' := 218) dX12_buying_217 rfl rfl ?_
    refine g_icmp_gtN (tgt := 257) (pc' := 221) dX12_buying_218 rfl (by decide) (by omega) (by omega) (fun c218 => ?_) (fun c218 => ?_)
    · exact absurd c218 (by omega)
    ·
      refine g_iload (pc' := 223) dX12_buying_221 rfl rfl ?_
      refine g_iload (pc' := 225) dX12_buying_223 rfl rfl ?_
      refine g_icmp_lt (tgt := 257) (pc' := 228) dX12_buying_225 rfl (by decide) (fun c225 => ?_) (fun c225 => ?_)
      · exact absurd (Int32.lt_iff_toInt_lt.mp c225) (by rw [nI_toInt (by omega)]; show ¬ (_ : Int) < -1; omega)
      ·
        refine g_iload (pc' := 230) dX12_buying_228 rfl rfl ?_
        refine g_iload (pc' := 232) dX12_buying_230 rfl rfl ?_
        refine g_icmp_ne (tgt := 245) (pc' := 235) dX12_buying_232 rfl (by decide) (fun c232 => ?_) (fun c232 => ?_)
        ·
          refine g_iload (pc' := 247) dX12_buying_245 rfl rfl ?_
          refine g_istore (pc' := 249) dX12_buying_247 rfl (by decide) rfl ?_
          try simp only [List.set]
          refine g_iload (pc' := 251) dX12_buying_249 rfl rfl ?_
          refine g_istore (pc' := 253) dX12_buying_251 rfl (by decide) rfl ?_
          try simp only [List.set]
          refine g_iload (pc' := 255) dX12_buying_253 rfl rfl ?_
          refine g_istore (pc' := 257) dX12_buying_255 rfl (by decide) rfl ?_
          try simp only [List.set]
          refine g_iincN (k := 1) (pc' := 260) dX12_buying_257 rfl rfl (by decide) rfl ?_
          try simp only [List.set]
          refine g_goto (tgt := 114) dX12_buying_260 (by decide) ?_
          refine G.drop 9 ?_
          refine G.drop 10 ?_
          simp only [List.set]
          have q := lm_buy3 (h0 := h0) hok hs hw hx hA6 hsv x hxq hd hQ _ 1 (q4_pos _) rfl (Nat.le_refl 1)
          rw [bu_1] at q
          exact q
        · exact absurd c232 (nI_ne_neg (by omega))
theorem one_99 {x : Int32} (q : 1 ≤ x ∧ x ≤ 99) : ∃ c : Nat, (1 ≤ c ∧ c ≤ 99) ∧ x = nI c := by
  rw [Int32.le_iff_toInt_le, Int32.le_iff_toInt_le] at q
  have h1 : (1 : Int) ≤ x.toInt := q.1
  have h2 : x.toInt ≤ (99 : Int) := q.2
  refine ⟨x.toInt.toNat, ⟨by omega, by omega⟩, ?_⟩
  rw [← Int32.toInt_inj, nI_toInt (by omega)]
  omega
set_option maxRecDepth 4000 in
theorem cm_buying {E : En} (hok : EOK E) {h : Hp} (hs : Shp h.2) (hw : Wf (mo h)) (hx : Wx (mo h)) (a0 : Int32) (w0 : Int32) (x : Int32) : Call E m_X12_buying 5 0 0 [vR MO, vI a0, vI w0, vI x] h (fun r h' => r = some (vI (sBuying (mo h) a0 w0 x).1) ∧ mo h' = (sBuying (mo h) a0 w0 x).2 ∧ Mk h h') := by
  have hNw : h.1 MO 2 = nI (nW (mo h)) := hw.w.1
  have hNwb := hw.w.2
  have hC : h.1 MO 30 = nI (nC (mo h)) := hw.c.1
  have hCb := hw.c.2
  have hK : h.1 MO 3 = nI (nK (mo h)) := hw.k.1
  have hKb := hw.k.2
  have hT : h.1 MO 4 = nI (nT (mo h)) := hw.t.1
  have hTb := hw.t.2
  have hF : h.1 MO 5 = nI (nF (mo h)) := hw.f.1
  have hFb := hw.f.2
  have hRc : h.1 MO 59 = nI (nR (mo h)) := hw.r.1
  have hRb := hw.r.2
  have hG : h.1 MO 60 = nI (nGf (mo h)) := hw.g.1
  have hGb := hw.g.2
  have hA : h.1 MO 70 = nI (nA (mo h)) := hw.a.1
  have hAb := hw.a.2
  have hTl : h.1 MO 1 = nI (nTl (mo h)) := hw.tl.1
  have hTlb := hw.tl.2
  refine Call.enter hok (by decide) (Nat.le_of_ble_eq_true rfl) ?_
  show G E m_X12_buying 5 0 0 _ h 0 [some (vR MO), some (vI a0), some (vI w0), some (vI x), none, none, none, none, none, none, none, none, none] [] h 0 0
  refine g_iload_n (pc' := 1) dX12_buying_0 rfl rfl ?_
  refine g_i2l (pc' := 2) dX12_buying_1 rfl ?_
  refine g_lconst (v := 0) (pc' := 3) dX12_buying_2 rfl rfl ?_
  refine g_ldc2 (pc' := 6) dX12_buying_3 rfl kc_X12_526 ?_
  refine g_invS (pc' := 9) (c_liesI hok _ (0) (60000) rfl (by decide) (by decide)) dX12_buying_6 rfl ml_X12_203 st_X12_lies in_X12 co_X12_lies pd_X12_lies rfl (by omega) (by decide) ⟨by decide, by decide⟩ (Nat.le_of_ble_eq_true rfl) ?_
  rintro _ _ ⟨rfl, rfl⟩ -
  refine g_ifB_eq (tgt := 43) (pc' := 12) dX12_buying_9 rfl (by decide) (fun c9 => ?_) (fun c9 => ?_)
  ·
    refine g_iconst (v := -1) (pc' := 44) dX12_buying_43 rfl (by decide) ?_
    refine g_iret dX12_buying_44 rfl (by decide) (by decide) ?_
    have e : sBuying (mo h) a0 w0 x = (-1, mo h) := cif_f (fun z => c9 z.1)
    rw [e]
    exact ⟨rfl, rfl, Mk.rf h⟩
  ·
    obtain ⟨A, hA6, rfl⟩ := rng (n := 60000) rfl (by decide) c9
    refine g_iload_n (pc' := 13) dX12_buying_12 rfl rfl ?_
    refine g_i2l (pc' := 14) dX12_buying_13 rfl ?_
    refine g_lconst (v := 1) (pc' := 15) dX12_buying_14 rfl rfl ?_
    refine g_ldc2 (pc' := 18) dX12_buying_15 rfl kc_X12_241 ?_
    refine g_invS (pc' := 21) (c_liesI hok _ (1) (99) rfl (by decide) (by decide)) dX12_buying_18 rfl ml_X12_203 st_X12_lies in_X12 co_X12_lies pd_X12_lies rfl (by omega) (by decide) ⟨by decide, by decide⟩ (Nat.le_of_ble_eq_true rfl) ?_
    rintro _ _ ⟨rfl, rfl⟩ -
    refine g_ifB_eq (tgt := 43) (pc' := 24) dX12_buying_21 rfl (by decide) (fun c21 => ?_) (fun c21 => ?_)
    ·
      refine g_iconst (v := -1) (pc' := 44) dX12_buying_43 rfl (by decide) ?_
      refine g_iret dX12_buying_44 rfl (by decide) (by decide) ?_
      have e : sBuying (mo h) (nI A) w0 x = (-1, mo h) := cif_f (fun z => c21 z.2.1)
      rw [e]
      exact ⟨rfl, rfl, Mk.rf h⟩
    ·
      obtain ⟨w, hw99, rfl⟩ := one_99 c21
      refine g_iload_n (pc' := 25) dX12_buying_24 rfl rfl ?_
      refine g_iconst (v := -1) (pc' := 26) dX12_buying_25 rfl (by decide) ?_
      refine g_icmp_eq (tgt := 45) (pc' := 29) dX12_buying_26 rfl (by decide) (fun c26 => ?_) (fun c26 => ?_)
      ·
        refine g_iconstN (n := 0) (pc' := 46) dX12_buying_45 rfl ?_
        refine g_istore (pc' := 48) dX12_buying_46 rfl (by decide) rfl ?_
        try simp only [List.set]
        have hxq : x = -1 ∨ x = nI 8 ∨ ∃ j : Nat, j < nK (mo h) ∧ x = nI j := Or.inl c26
        have e : sBuying (mo h) (nI A) (nI w) x = (buA (mo h) w A x, mo h) := by unfold sBuying; simp only [nI_clamp (show A < 2 ^ 31 by omega), nI_clamp (show w < 2 ^ 31 by omega)]; exact cif_t ⟨c9, c21, hxq⟩
        rw [e]
        refine lm_buy1 hok hs hw hw99.2 x (Nat.le_refl _) (fun h3 hm3 hb3 sv3 => ?_) _ 0 h (Nat.zero_le _) rfl rfl (B8.rf h) (fun i hi => absurd hi (by omega))
        have hs3 : Shp h3.2 := by rw [hb3.1]; exact hs
        rw [← hm3]
        refine lm_buy0 hok hs3 (by rw [hm3]; exact hw) (by rw [hm3]; exact hx) hA6 (by rw [hm3]; exact sv3) x (by rw [hm3]; exact hxq) (Nat.zero_le _) ⟨rfl, rfl, hb3.mk⟩
      ·
        refine g_iload_n (pc' := 30) dX12_buying_29 rfl rfl ?_
        refine g_bipushN (n := 8) (pc' := 32) dX12_buying_30 rfl (by decide) ?_
        refine g_icmp_eq (tgt := 45) (pc' := 35) dX12_buying_32 rfl (by decide) (fun c32 => ?_) (fun c32 => ?_)
        ·
          refine g_iconstN (n := 0) (pc' := 46) dX12_buying_45 rfl ?_
          refine g_istore (pc' := 48) dX12_buying_46 rfl (by decide) rfl ?_
          try simp only [List.set]
          have hxq : x = -1 ∨ x = nI 8 ∨ ∃ j : Nat, j < nK (mo h) ∧ x = nI j := Or.inr (Or.inl c32)
          have e : sBuying (mo h) (nI A) (nI w) x = (buA (mo h) w A x, mo h) := by unfold sBuying; simp only [nI_clamp (show A < 2 ^ 31 by omega), nI_clamp (show w < 2 ^ 31 by omega)]; exact cif_t ⟨c9, c21, hxq⟩
          rw [e]
          refine lm_buy1 hok hs hw hw99.2 x (Nat.le_refl _) (fun h3 hm3 hb3 sv3 => ?_) _ 0 h (Nat.zero_le _) rfl rfl (B8.rf h) (fun i hi => absurd hi (by omega))
          have hs3 : Shp h3.2 := by rw [hb3.1]; exact hs
          rw [← hm3]
          refine lm_buy0 hok hs3 (by rw [hm3]; exact hw) (by rw [hm3]; exact hx) hA6 (by rw [hm3]; exact sv3) x (by rw [hm3]; exact hxq) (Nat.zero_le _) ⟨rfl, rfl, hb3.mk⟩
        ·
          refine g_aload_n (pc' := 36) dX12_buying_35 rfl rfl ?_
          refine g_iload_n (pc' := 37) dX12_buying_36 rfl rfl ?_
          refine g_invV (pc' := 40) (cm_isKind hok hw _) dX12_buying_37 rfl rfl ck_13 rfl ml_X12_230 im_X12_isKind sl_X12_isKind in_X12 co_X12_isKind pd_X12_isKind rfl (by omega) (by decide) ⟨by decide, by decide⟩ (Nat.le_of_ble_eq_true rfl) ?_
          rintro _ _ ⟨rfl, rfl⟩ -
          refine g_ifB_ne (tgt := 45) (pc' := 43) dX12_buying_40 rfl (by decide) (fun c40 => ?_) (fun c40 => ?_)
          ·
            refine g_iconstN (n := 0) (pc' := 46) dX12_buying_45 rfl ?_
            refine g_istore (pc' := 48) dX12_buying_46 rfl (by decide) rfl ?_
            try simp only [List.set]
            have hxq : x = -1 ∨ x = nI 8 ∨ ∃ j : Nat, j < nK (mo h) ∧ x = nI j := Or.inr (Or.inr c40)
            have e : sBuying (mo h) (nI A) (nI w) x = (buA (mo h) w A x, mo h) := by unfold sBuying; simp only [nI_clamp (show A < 2 ^ 31 by omega), nI_clamp (show w < 2 ^ 31 by omega)]; exact cif_t ⟨c9, c21, hxq⟩
            rw [e]
            refine lm_buy1 hok hs hw hw99.2 x (Nat.le_refl _) (fun h3 hm3 hb3 sv3 => ?_) _ 0 h (Nat.zero_le _) rfl rfl (B8.rf h) (fun i hi => absurd hi (by omega))
            have hs3 : Shp h3.2 := by rw [hb3.1]; exact hs
            rw [← hm3]
            refine lm_buy0 hok hs3 (by rw [hm3]; exact hw) (by rw [hm3]; exact hx) hA6 (by rw [hm3]; exact sv3) x (by rw [hm3]; exact hxq) (Nat.zero_le _) ⟨rfl, rfl, hb3.mk⟩
          ·
            refine g_iconst (v := -1) (pc' := 44) dX12_buying_43 rfl (by decide) ?_
            refine g_iret dX12_buying_44 rfl (by decide) (by decide) ?_
            have e : sBuying (mo h) (nI A) (nI w) x = (-1, mo h) := cif_f (fun z => z.2.2.elim c26 (fun z => z.elim c32 c40))
            rw [e]
            exact ⟨rfl, rfl, Mk.rf h⟩
