theorem one_nine {x : Int32} (q : 1 ≤ x ∧ x ≤ 9) : ∃ c : Nat, (1 ≤ c ∧ c ≤ 9) ∧ x = nI c := by
  rw [Int32.le_iff_toInt_le, Int32.le_iff_toInt_le] at q
  have h1 : (1 : Int) ≤ x.toInt := q.1
  have h2 : x.toInt ≤ (9 : Int) := q.2
  refine ⟨x.toInt.toNat, ⟨by omega, by omega⟩, ?_⟩
  rw [← Int32.toInt_inj, nI_toInt (by omega)]
  omega
/-- a set's bit -/
def hasB (x : Int32) (k : Nat) : Prop := (x >>> (nI k &&& 31)) &&& nI 1 = nI 1
set_option maxRecDepth 4000 in
theorem cm_has {E : En} (hok : EOK E) {h : Hp} (x : Int32) (k : Nat) : Fn E m_X12_has 0 [vI (x), vI (nI k)] h (vI (bi (hasB x k))) := by
  refine Call.enter hok (by decide) (Nat.le_of_ble_eq_true rfl) ?_
  show G E m_X12_has 0 0 0 _ h 0 [some (vI x), some (vI (nI k))] [] h 0 0
  refine g_iload_n (pc' := 1) dX12_has_0 rfl rfl ?_
  refine g_iload_n (pc' := 2) dX12_has_1 rfl rfl ?_
  refine g_ishr (pc' := 3) dX12_has_2 rfl ?_
  refine g_iconstN (n := 1) (pc' := 4) dX12_has_3 rfl ?_
  refine g_iand (pc' := 5) dX12_has_4 rfl ?_
  refine g_iconstN (n := 1) (pc' := 6) dX12_has_5 rfl ?_
  refine g_icmp_ne (tgt := 13) (pc' := 9) dX12_has_6 rfl (by decide) (fun c6 => ?_) (fun c6 => ?_)
  ·
    refine g_iconstN (n := 0) (pc' := 14) dX12_has_13 rfl ?_
    refine g_zret dX12_has_14 rfl (by rfl) (by decide) (by decide) ?_
    exact ⟨congrArg (fun z : Int32 => some (vI z)) (bi_f (P := hasB x k) c6).symm, rfl⟩
  ·
    refine g_iconstN (n := 1) (pc' := 10) dX12_has_9 rfl ?_
    refine g_goto (tgt := 14) dX12_has_10 (by decide) ?_
    refine g_zret dX12_has_14 rfl (by rfl) (by decide) (by decide) ?_
    exact ⟨congrArg (fun z : Int32 => some (vI z)) (bi_t (P := hasB x k) c6).symm, rfl⟩
/-- how many are washed ahead -/
noncomputable def ahd (m : St) (t : Nat) : Nat := cnt (fun o => ¬ o = t ∧ (m 118 o = 0 ∧ ¬ m 124 o = 0) ∧ (wfr m (kd m t) < wfr m (kd m o) ∨ wfr m (kd m o) = wfr m (kd m t) ∧ o < t)) (nT m)
set_option maxRecDepth 4000 in
theorem lm_rota {E : En} (hok : EOK E) {h h0 : Hp} (hs : Shp h.2) (hw : Wf (mo h)) {t c : Nat} (ht : t < nT (mo h)) (hc : 1 ≤ c) (hc9 : c ≤ 9) {d : Nat} (hd : 3 ≤ d) {Q : Option V → Hp → Prop} (hQ : Q (some (vI (nI (nW (mo h) + ahd (mo h) t / c)))) h) : ∀ n o : Nat, o ≤ nT (mo h) → nT (mo h) - o = n → G E m_X12_rota d 0 0 Q h0 47 [some (vR MO), some (vI (nI c)), some (vI (nI t)), some (vI (nI (cnt (fun o => ¬ o = t ∧ (mo h 118 o = 0 ∧ ¬ mo h 124 o = 0) ∧ (wfr (mo h) (kd (mo h) t) < wfr (mo h) (kd (mo h) o) ∨ wfr (mo h) (kd (mo h) o) = wfr (mo h) (kd (mo h) t) ∧ o < t)) o))), some (vI (nI (wfr (mo h) (kd (mo h) t)))), some (vI (nI o)), none] [] (h) 0 0 := by
  have hNw : h.1 MO 2 = nI (nW (mo h)) := hw.w.1
  have hNwb := hw.w.2
  have hC : h.1 MO 30 = nI (nC (mo h)) := hw.c.1
  have hCb := hw.c.2
  have hK : h.1 MO 3 = nI (nK (mo h)) := hw.k.1
  have hKb := hw.k.2
  have hT : h.1 MO 4 = nI (nT (mo h)) := hw.t.1
  have hTb := hw.t.2
  have hF : h.1 MO 5 = nI (nF (mo h)) := hw.f.1
  have hFb := hw.f.2
  have hRc : h.1 MO 59 = nI (nR (mo h)) := hw.r.1
  have hRb := hw.r.2
  have hG : h.1 MO 60 = nI (nGf (mo h)) := hw.g.1
  have hGb := hw.g.2
  have hA : h.1 MO 70 = nI (nA (mo h)) := hw.a.1
  have hAb := hw.a.2
  have hTl : h.1 MO 1 = nI (nTl (mo h)) := hw.tl.1
  have hTlb := hw.tl.2
  have hwo : ∀ k, wfr (mo h) k ≤ nF (mo h) := fun k => cnt_le _ _
  have hkt := (hw.kd ht).2
  have hw1 := hwo (kd (mo h) t)
  intro n
  induction n with
  | zero =>
    intro o h1 h2
    refine g_iload (pc' := 49) dX12_rota_47 rfl rfl ?_
    refine g_aload_n (pc' := 50) dX12_rota_49 rfl rfl ?_
    refine g_getIv (v := nI (nT (mo h))) (pc' := 53) (k := 4) dX12_rota_50 rfl rfl ck_13 (by decide) fl_X12_211 rfl (hT) ?_
    refine g_icmp_geN (tgt := 121) (pc' := 56) dX12_rota_53 rfl (by decide) (by omega) (by omega) (fun c53 => ?_) (fun c53 => ?_)
    ·
      have hcl := cnt_le (fun o => ¬ o = t ∧ (mo h 118 o = 0 ∧ ¬ mo h 124 o = 0) ∧ (wfr (mo h) (kd (mo h) t) < wfr (mo h) (kd (mo h) o) ∨ wfr (mo h) (kd (mo h) o) = wfr (mo h) (kd (mo h) t) ∧ o < t)) o
      refine g_aload_n (pc' := 122) dX12_rota_121 rfl rfl ?_
      refine g_getIv (v := nI (nW (mo h))) (pc' := 125) (k := 2) dX12_rota_122 rfl rfl ck_13 (by decide) fl_X12_219 rfl (hNw) ?_
      refine g_iload_n (pc' := 126) dX12_rota_125 rfl rfl ?_
      refine g_iload_n (pc' := 127) dX12_rota_126 rfl rfl ?_
      refine g_idivN (pc' := 128) dX12_rota_127 rfl (by omega) (by omega) (by omega) ?_
      refine g_iaddN (pc' := 129) dX12_rota_128 rfl ?_
      refine g_iret dX12_rota_129 rfl (by decide) (by decide) ?_
      have e : o = nT (mo h) := by omega
      subst e
      exact hQ
    · exact absurd c53 (by omega)
  | succ n ih =>
    intro o h1 h2
    refine g_iload (pc' := 49) dX12_rota_47 rfl rfl ?_
    refine g_aload_n (pc' := 50) dX12_rota_49 rfl rfl ?_
    refine g_getIv (v := nI (nT (mo h))) (pc' := 53) (k := 4) dX12_rota_50 rfl rfl ck_13 (by decide) fl_X12_211 rfl (hT) ?_
    refine g_icmp_geN (tgt := 121) (pc' := 56) dX12_rota_53 rfl (by decide) (by omega) (by omega) (fun c53 => ?_) (fun c53 => ?_)
    · exact absurd c53 (by omega)
    ·
      have hcl := cnt_le (fun o => ¬ o = t ∧ (mo h 118 o = 0 ∧ ¬ mo h 124 o = 0) ∧ (wfr (mo h) (kd (mo h) t) < wfr (mo h) (kd (mo h) o) ∨ wfr (mo h) (kd (mo h) o) = wfr (mo h) (kd (mo h) t) ∧ o < t)) o
      refine g_iload (pc' := 58) dX12_rota_56 rfl rfl ?_
      refine g_iload_n (pc' := 59) dX12_rota_58 rfl rfl ?_
      refine g_icmp_eqN (tgt := 115) (pc' := 62) dX12_rota_59 rfl (by decide) (by omega) (by omega) (fun c59 => ?_) (fun c59 => ?_)
      ·
        refine g_iincN (k := 1) (pc' := 118) dX12_rota_115 rfl rfl (by decide) rfl ?_
        try simp only [List.set]
        refine g_goto (tgt := 47) dX12_rota_118 (by decide) ?_
        have q := ih (o + 1) (by omega) (by omega)
        rw [cnt_f (fun z => z.1 c59)] at q
        rw [Nat.add_zero] at q
        exact q
      ·
        refine g_aload_n (pc' := 63) dX12_rota_62 rfl rfl ?_
        refine g_iload (pc' := 65) dX12_rota_63 rfl rfl ?_
        refine g_invV (pc' := 68) (cm_isToWash hok hs hw (t := o) (by omega)) dX12_rota_65 rfl rfl ck_13 rfl ml_X12_547 im_X12_isToWash sl_X12_isToWash in_X12 co_X12_isToWash pd_X12_isToWash rfl (by omega) (by decide) ⟨by decide, by decide⟩ (Nat.le_of_ble_eq_true rfl) ?_
        rintro _ _ ⟨rfl, rfl⟩ -
        refine g_ifB_ne (tgt := 74) (pc' := 71) dX12_rota_68 rfl (by decide) (fun c68 => ?_) (fun c68 => ?_)
        ·
          have hko := (hw.kd (t := o) (by omega)).2
          have hw2 := hwo (kd (mo h) o)
          refine g_aload_n (pc' := 75) dX12_rota_74 rfl rfl ?_
          refine g_aload_n (pc' := 76) dX12_rota_75 rfl rfl ?_
          refine g_getS (pc' := 79) (k := 15) (b := (115, 0)) dX12_rota_76 rfl rfl ck_13 (by decide) fl_X12_35 rfl hs rfl ?_
          refine g_iload (pc' := 81) dX12_rota_79 rfl rfl ?_
          refine g_ialdN (pc' := 82) (v := nI (kd (mo h) o)) dX12_rota_81 rfl rfl (by decide) (by omega) ((hw.kd (by omega)).1) ?_
          refine g_invV (pc' := 85) (cm_waitingFor hok hs hw (k := kd (mo h) o) (by omega)) dX12_rota_82 rfl rfl ck_13 rfl ml_X12_400 im_X12_waitingFor sl_X12_waitingFor in_X12 co_X12_waitingFor pd_X12_waitingFor rfl (by omega) (by decide) ⟨by decide, by decide⟩ (Nat.le_of_ble_eq_true rfl) ?_
          rintro _ _ ⟨rfl, rfl⟩ -
          refine g_istore (pc' := 87) dX12_rota_85 rfl (by decide) rfl ?_
          try simp only [List.set]
          refine g_iload_n (pc' := 88) dX12_rota_87 rfl rfl ?_
          refine g_iload (pc' := 90) dX12_rota_88 rfl rfl ?_
          refine g_iload (pc' := 92) dX12_rota_90 rfl rfl ?_
          refine g_icmp_gtN (tgt := 108) (pc' := 95) dX12_rota_92 rfl (by decide) (by omega) (by omega) (fun c92 => ?_) (fun c92 => ?_)
          ·
            refine g_iconstN (n := 1) (pc' := 109) dX12_rota_108 rfl ?_
            refine g_goto (tgt := 113) dX12_rota_109 (by decide) ?_
            refine g_iaddN (pc' := 114) dX12_rota_113 rfl ?_
            refine g_istore_n (pc' := 115) dX12_rota_114 rfl (by decide) rfl ?_
            try simp only [List.set]
            refine g_iincN (k := 1) (pc' := 118) dX12_rota_115 rfl rfl (by decide) rfl ?_
            try simp only [List.set]
            refine g_goto (tgt := 47) dX12_rota_118 (by decide) ?_
            refine G.drop 6 ?_
            simp only [List.set]
            have q := ih (o + 1) (by omega) (by omega)
            rw [cnt_t (p := (fun o => ¬ o = t ∧ (mo h 118 o = 0 ∧ ¬ mo h 124 o = 0) ∧ (wfr (mo h) (kd (mo h) t) < wfr (mo h) (kd (mo h) o) ∨ wfr (mo h) (kd (mo h) o) = wfr (mo h) (kd (mo h) t) ∧ o < t))) ⟨c59, c68, Or.inl c92⟩] at q
            exact q
          ·
            refine g_iload (pc' := 97) dX12_rota_95 rfl rfl ?_
            refine g_iload (pc' := 99) dX12_rota_97 rfl rfl ?_
            refine g_icmp_neN (tgt := 112) (pc' := 102) dX12_rota_99 rfl (by decide) (by omega) (by omega) (fun c99 => ?_) (fun c99 => ?_)
            ·
              refine g_iconstN (n := 0) (pc' := 113) dX12_rota_112 rfl ?_
              refine g_iaddN (pc' := 114) dX12_rota_113 rfl ?_
              refine g_istore_n (pc' := 115) dX12_rota_114 rfl (by decide) rfl ?_
              try simp only [List.set]
              refine g_iincN (k := 1) (pc' := 118) dX12_rota_115 rfl rfl (by decide) rfl ?_
              try simp only [List.set]
              refine g_goto (tgt := 47) dX12_rota_118 (by decide) ?_
              refine G.drop 6 ?_
              simp only [List.set]
              have q := ih (o + 1) (by omega) (by omega)
              rw [cnt_f (by rintro ⟨-, -, z | z⟩ <;> omega)] at q
              exact q
            ·
              refine g_iload (pc' := 104) dX12_rota_102 rfl rfl ?_
              refine g_iload_n (pc' := 105) dX12_rota_104 rfl rfl ?_
              refine g_icmp_geN (tgt := 112) (pc' := 108) dX12_rota_105 rfl (by decide) (by omega) (by omega) (fun c105 => ?_) (fun c105 => ?_)
              ·
                refine g_iconstN (n := 0) (pc' := 113) dX12_rota_112 rfl ?_
                refine g_iaddN (pc' := 114) dX12_rota_113 rfl ?_
                refine g_istore_n (pc' := 115) dX12_rota_114 rfl (by decide) rfl ?_
                try simp only [List.set]
                refine g_iincN (k := 1) (pc' := 118) dX12_rota_115 rfl rfl (by decide) rfl ?_
                try simp only [List.set]
                refine g_goto (tgt := 47) dX12_rota_118 (by decide) ?_
                refine G.drop 6 ?_
                simp only [List.set]
                have q := ih (o + 1) (by omega) (by omega)
                rw [cnt_f (by rintro ⟨-, -, z | z⟩ <;> omega)] at q
                exact q
              ·
                refine g_iconstN (n := 1) (pc' := 109) dX12_rota_108 rfl ?_
                refine g_goto (tgt := 113) dX12_rota_109 (by decide) ?_
                refine g_iaddN (pc' := 114) dX12_rota_113 rfl ?_
                refine g_istore_n (pc' := 115) dX12_rota_114 rfl (by decide) rfl ?_
                try simp only [List.set]
                refine g_iincN (k := 1) (pc' := 118) dX12_rota_115 rfl rfl (by decide) rfl ?_
                try simp only [List.set]
                refine g_goto (tgt := 47) dX12_rota_118 (by decide) ?_
                refine G.drop 6 ?_
                simp only [List.set]
                have q := ih (o + 1) (by omega) (by omega)
                rw [cnt_t (p := (fun o => ¬ o = t ∧ (mo h 118 o = 0 ∧ ¬ mo h 124 o = 0) ∧ (wfr (mo h) (kd (mo h) t) < wfr (mo h) (kd (mo h) o) ∨ wfr (mo h) (kd (mo h) o) = wfr (mo h) (kd (mo h) t) ∧ o < t))) ⟨c59, c68, Or.inr ⟨c99, by omega⟩⟩] at q
                exact q
        ·
          refine g_goto (tgt := 115) dX12_rota_71 (by decide) ?_
          refine g_iincN (k := 1) (pc' := 118) dX12_rota_115 rfl rfl (by decide) rfl ?_
          try simp only [List.set]
          refine g_goto (tgt := 47) dX12_rota_118 (by decide) ?_
          have q := ih (o + 1) (by omega) (by omega)
          rw [cnt_f (fun z => c68 z.2.1)] at q
          rw [Nat.add_zero] at q
          exact q
noncomputable def sRota (m : St) (c0 : Int32) (t0 : Int32) : Int32 × St := cif ((1 ≤ c0 ∧ c0 ≤ 9) ∧ (∃ j : Nat, j < nT m ∧ t0 = nI j) ∧ (m 118 t0.toNatClampNeg = 0 ∧ ¬ m 124 t0.toNatClampNeg = 0)) (nI (nW m + ahd m t0.toNatClampNeg / c0.toNatClampNeg), m) (-1, m)
set_option maxRecDepth 4000 in
theorem cm_rota {E : En} (hok : EOK E) {h : Hp} (hs : Shp h.2) (hw : Wf (mo h)) (c0 : Int32) (t0 : Int32) : Call E m_X12_rota 4 0 0 [vR MO, vI c0, vI t0] h (fun r h' => r = some (vI (sRota (mo h) c0 t0).1) ∧ mo h' = (sRota (mo h) c0 t0).2 ∧ Mk h h') := by
  have hNw : h.1 MO 2 = nI (nW (mo h)) := hw.w.1
  have hNwb := hw.w.2
  have hC : h.1 MO 30 = nI (nC (mo h)) := hw.c.1
  have hCb := hw.c.2
  have hK : h.1 MO 3 = nI (nK (mo h)) := hw.k.1
  have hKb := hw.k.2
  have hT : h.1 MO 4 = nI (nT (mo h)) := hw.t.1
  have hTb := hw.t.2
  have hF : h.1 MO 5 = nI (nF (mo h)) := hw.f.1
  have hFb := hw.f.2
  have hRc : h.1 MO 59 = nI (nR (mo h)) := hw.r.1
  have hRb := hw.r.2
  have hG : h.1 MO 60 = nI (nGf (mo h)) := hw.g.1
  have hGb := hw.g.2
  have hA : h.1 MO 70 = nI (nA (mo h)) := hw.a.1
  have hAb := hw.a.2
  have hTl : h.1 MO 1 = nI (nTl (mo h)) := hw.tl.1
  have hTlb := hw.tl.2
  refine Call.enter hok (by decide) (Nat.le_of_ble_eq_true rfl) ?_
  show G E m_X12_rota 4 0 0 _ h 0 [some (vR MO), some (vI c0), some (vI t0), none, none, none, none] [] h 0 0
  refine g_iload_n (pc' := 1) dX12_rota_0 rfl rfl ?_
  refine g_i2l (pc' := 2) dX12_rota_1 rfl ?_
  refine g_lconst (v := 1) (pc' := 3) dX12_rota_2 rfl rfl ?_
  refine g_ldc2 (pc' := 6) dX12_rota_3 rfl kc_X12_226 ?_
  refine g_invS (pc' := 9) (c_liesI hok _ (1) (9) rfl (by decide) (by decide)) dX12_rota_6 rfl ml_X12_203 st_X12_lies in_X12 co_X12_lies pd_X12_lies rfl (by omega) (by decide) ⟨by decide, by decide⟩ (Nat.le_of_ble_eq_true rfl) ?_
  rintro _ _ ⟨rfl, rfl⟩ -
  refine g_ifB_eq (tgt := 28) (pc' := 12) dX12_rota_9 rfl (by decide) (fun c9 => ?_) (fun c9 => ?_)
  ·
    refine g_iconst (v := -1) (pc' := 29) dX12_rota_28 rfl (by decide) ?_
    refine g_iret dX12_rota_29 rfl (by decide) (by decide) ?_
    have e : sRota (mo h) c0 t0 = (-1, mo h) := by exact cif_f (by rintro ⟨z0, z1, z2⟩; contradiction)
    rw [e]
    exact ⟨rfl, rfl, Mk.rf h⟩
  ·
    have k9 := one_nine c9
    obtain ⟨c, hc, rfl⟩ := k9
    refine g_aload_n (pc' := 13) dX12_rota_12 rfl rfl ?_
    refine g_iload_n (pc' := 14) dX12_rota_13 rfl rfl ?_
    refine g_invV (pc' := 17) (cm_isToy hok hw _) dX12_rota_14 rfl rfl ck_13 rfl ml_X12_443 im_X12_isToy sl_X12_isToy in_X12 co_X12_isToy pd_X12_isToy rfl (by omega) (by decide) ⟨by decide, by decide⟩ (Nat.le_of_ble_eq_true rfl) ?_
    rintro _ _ ⟨rfl, rfl⟩ -
    refine g_ifB_eq (tgt := 28) (pc' := 20) dX12_rota_17 rfl (by decide) (fun c17 => ?_) (fun c17 => ?_)
    ·
      refine g_iconst (v := -1) (pc' := 29) dX12_rota_28 rfl (by decide) ?_
      refine g_iret dX12_rota_29 rfl (by decide) (by decide) ?_
      have e : sRota (mo h) (nI c) t0 = (-1, mo h) := by unfold sRota; simp only [nI_clamp (show c < 2 ^ 31 by omega)]; exact cif_f (by rintro ⟨z0, z1, z2⟩; contradiction)
      rw [e]
      exact ⟨rfl, rfl, Mk.rf h⟩
    ·
      have k17 := c17
      obtain ⟨t, ht, rfl⟩ := k17
      refine g_aload_n (pc' := 21) dX12_rota_20 rfl rfl ?_
      refine g_iload_n (pc' := 22) dX12_rota_21 rfl rfl ?_
      refine g_invV (pc' := 25) (cm_isToWash hok hs hw (t := t) (by omega)) dX12_rota_22 rfl rfl ck_13 rfl ml_X12_547 im_X12_isToWash sl_X12_isToWash in_X12 co_X12_isToWash pd_X12_isToWash rfl (by omega) (by decide) ⟨by decide, by decide⟩ (Nat.le_of_ble_eq_true rfl) ?_
      rintro _ _ ⟨rfl, rfl⟩ -
      refine g_ifB_ne (tgt := 30) (pc' := 28) dX12_rota_25 rfl (by decide) (fun c25 => ?_) (fun c25 => ?_)
      ·
        refine g_iconstN (n := 0) (pc' := 31) dX12_rota_30 rfl ?_
        refine g_istore_n (pc' := 32) dX12_rota_31 rfl (by decide) rfl ?_
        try simp only [List.set]
        refine g_aload_n (pc' := 33) dX12_rota_32 rfl rfl ?_
        have hkd := (hw.kd ht).2
        refine g_aload_n (pc' := 34) dX12_rota_33 rfl rfl ?_
        refine g_getS (pc' := 37) (k := 15) (b := (115, 0)) dX12_rota_34 rfl rfl ck_13 (by decide) fl_X12_35 rfl hs rfl ?_
        refine g_iload_n (pc' := 38) dX12_rota_37 rfl rfl ?_
        refine g_ialdN (pc' := 39) (v := nI (kd (mo h) t)) dX12_rota_38 rfl rfl (by decide) (by omega) ((hw.kd ht).1) ?_
        refine g_invV (pc' := 42) (cm_waitingFor hok hs hw (k := kd (mo h) t) (by omega)) dX12_rota_39 rfl rfl ck_13 rfl ml_X12_400 im_X12_waitingFor sl_X12_waitingFor in_X12 co_X12_waitingFor pd_X12_waitingFor rfl (by omega) (by decide) ⟨by decide, by decide⟩ (Nat.le_of_ble_eq_true rfl) ?_
        rintro _ _ ⟨rfl, rfl⟩ -
        refine g_istore (pc' := 44) dX12_rota_42 rfl (by decide) rfl ?_
        try simp only [List.set]
        refine g_iconstN (n := 0) (pc' := 45) dX12_rota_44 rfl ?_
        refine g_istore (pc' := 47) dX12_rota_45 rfl (by decide) rfl ?_
        try simp only [List.set]
        refine lm_rota hok hs hw ht hc.1 hc.2 (by omega) ?_ _ 0 (Nat.zero_le _) rfl
        have e : sRota (mo h) (nI c) (nI t) = (nI (nW (mo h) + ahd (mo h) t / c), mo h) := by unfold sRota; simp only [nI_clamp (show t < 2 ^ 31 by omega), nI_clamp (show c < 2 ^ 31 by omega)]; exact cif_t ⟨c9, c17, c25⟩
        rw [e]
        exact ⟨rfl, rfl, Mk.rf h⟩
      ·
        refine g_iconst (v := -1) (pc' := 29) dX12_rota_28 rfl (by decide) ?_
        refine g_iret dX12_rota_29 rfl (by decide) (by decide) ?_
        have e : sRota (mo h) (nI c) (nI t) = (-1, mo h) := by unfold sRota; simp only [nI_clamp (show c < 2 ^ 31 by omega), nI_clamp (show t < 2 ^ 31 by omega)]; exact cif_f (by rintro ⟨z0, z1, z2⟩; contradiction)
        rw [e]
        exact ⟨rfl, rfl, Mk.rf h⟩
def stdH (h : Hp) (k t f l : Int32) : Hp := wI (wI (wI (wI h MO 53 k) MO 54 t) MO 55 f) MO 56 l
theorem mo_std (h : Hp) (k t f l : Int32) : mo (stdH h k t f l) = mo h := by
  unfold stdH
  rw [mo_wS (j := 56) rfl, mo_wS (j := 55) rfl, mo_wS (j := 54) rfl, mo_wS (j := 53) rfl]
theorem Mk.std {h h' : Hp} (q : Mk h h') (k t f l : Int32) : Mk h (stdH h' k t f l) := (((q.w (Or.inl rfl)).w (Or.inl rfl)).w (Or.inl rfl)).w (Or.inl rfl)
def cmsH (h : Hp) (t : Nat) (w : Int32) : Hp := wI (wI (wI (wI h (118, 0) t w) (119, 0) t (-1)) (120, 0) t (-1)) (123, 0) t (h.1 MO 2)
def cmsS (m : St) (t : Nat) (w : Int32) : St := stU (stU (stU (stU m 118 t w) 119 t (-1)) 120 t (-1)) 123 t (m 1 2)
theorem mo_cms (h : Hp) (t : Nat) (w : Int32) : mo (cmsH h t w) = cmsS (mo h) t w := by
  unfold cmsH cmsS
  rw [mo_wI (s := 123) rfl, mo_wI (s := 120) rfl, mo_wI (s := 119) rfl, mo_wI (s := 118) rfl] <;> rfl
theorem Mk.cms {h h' : Hp} (q : Mk h h') (t : Nat) (w : Int32) : Mk h (cmsH h' t w) := (((q.w (Or.inr (by decide))).w (Or.inr (by decide))).w (Or.inr (by decide))).w (Or.inr (by decide))
def wrtH (h : Hp) (n : Nat) (t w : Int32) : Hp := wI (wI (wI (wI (wI (wI h (172, 0) n t) (173, 0) n w) (174, 0) n (h.1 MO 2)) (175, 0) n (h.1 MO 2 + h.1 MO 7)) (178, 0) n 0) MO 70 (nI (n + 1))
def wrtS (m : St) (n : Nat) (t w : Int32) : St := stU (stU (stU (stU (stU (stU m 172 n t) 173 n w) 174 n (m 1 2)) 175 n (m 1 2 + m 1 7)) 178 n 0) 1 70 (nI (n + 1))
theorem mo_wrt (h : Hp) (n : Nat) (t w : Int32) : mo (wrtH h n t w) = wrtS (mo h) n t w := by
  unfold wrtH wrtS
  rw [mo_wF (j := 70) rfl, mo_wI (s := 178) rfl, mo_wI (s := 175) rfl, mo_wI (s := 174) rfl, mo_wI (s := 173) rfl, mo_wI (s := 172) rfl] <;> rfl
theorem Mk.wrt {h h' : Hp} (q : Mk h h') (n : Nat) (t w : Int32) : Mk h (wrtH h' n t w) := (((((q.w (Or.inr (by decide))).w (Or.inr (by decide))).w (Or.inr (by decide))).w (Or.inr (by decide))).w (Or.inr (by decide))).w (Or.inl rfl)
set_option maxRecDepth 4000 in
theorem cm_stands {E : En} (hok : EOK E) {h : Hp} (hs : Shp h.2) (k t f l : Int32) : Fm E m_X12_stands 0 [vR MO, vI (k), vI (t), vI (f), vI (l)] h (none) (stdH h k t f l) := by
  refine Call.enter hok (by decide) (Nat.le_of_ble_eq_true rfl) ?_
  show G E m_X12_stands 0 0 0 _ h 0 [some (vR MO), some (vI k), some (vI t), some (vI f), some (vI l)] [] h 0 0
  refine g_aload_n (pc' := 1) dX12_stands_0 rfl rfl ?_
  refine g_iload_n (pc' := 2) dX12_stands_1 rfl rfl ?_
  refine g_putI (pc' := 5) (k := 53) dX12_stands_2 rfl rfl ck_13 (by decide) fl_X12_378 rfl rfl rfl rfl ?_
  refine g_aload_n (pc' := 6) dX12_stands_5 rfl rfl ?_
  refine g_iload_n (pc' := 7) dX12_stands_6 rfl rfl ?_
  refine g_putI (pc' := 10) (k := 54) dX12_stands_7 rfl rfl ck_13 (by decide) fl_X12_381 rfl rfl rfl rfl ?_
  refine g_aload_n (pc' := 11) dX12_stands_10 rfl rfl ?_
  refine g_iload_n (pc' := 12) dX12_stands_11 rfl rfl ?_
  refine g_putI (pc' := 15) (k := 55) dX12_stands_12 rfl rfl ck_13 (by decide) fl_X12_384 rfl rfl rfl rfl ?_
  refine g_aload_n (pc' := 16) dX12_stands_15 rfl rfl ?_
  refine g_iload (pc' := 18) dX12_stands_16 rfl rfl ?_
  refine g_putI (pc' := 21) (k := 56) dX12_stands_18 rfl rfl ck_13 (by decide) fl_X12_387 rfl rfl rfl rfl ?_
  refine g_vret dX12_stands_21 rfl (by decide) (by decide) ?_
  exact ⟨rfl, rfl⟩
set_option maxRecDepth 4000 in
theorem cm_comes {E : En} (hok : EOK E) {h : Hp} (hs : Shp h.2) {t : Nat} (ht : t < 16) (w : Int32) : Fm E m_X12_comes 0 [vR MO, vI (nI t), vI (w)] h (none) (cmsH h t w) := by
  refine Call.enter hok (by decide) (Nat.le_of_ble_eq_true rfl) ?_
  show G E m_X12_comes 0 0 0 _ h 0 [some (vR MO), some (vI (nI t)), some (vI w)] [] h 0 0
  refine g_aload_n (pc' := 1) dX12_comes_0 rfl rfl ?_
  refine g_getS (pc' := 4) (k := 18) (b := (118, 0)) dX12_comes_1 rfl rfl ck_13 (by decide) fl_X12_44 rfl hs rfl ?_
  refine g_iload_n (pc' := 5) dX12_comes_4 rfl rfl ?_
  refine g_iload_n (pc' := 6) dX12_comes_5 rfl rfl ?_
  refine g_iastN (pc' := 7) dX12_comes_6 rfl rfl (by decide) (by omega) ?_
  refine g_aload_n (pc' := 8) dX12_comes_7 rfl rfl ?_
  refine g_getS (pc' := 11) (k := 19) (b := (119, 0)) dX12_comes_8 rfl rfl ck_13 (by decide) fl_X12_47 rfl hs rfl ?_
  refine g_iload_n (pc' := 12) dX12_comes_11 rfl rfl ?_
  refine g_iconst (v := -1) (pc' := 13) dX12_comes_12 rfl (by decide) ?_
  refine g_iastN (pc' := 14) dX12_comes_13 rfl rfl (by decide) (by omega) ?_
  refine g_aload_n (pc' := 15) dX12_comes_14 rfl rfl ?_
  refine g_getS (pc' := 18) (k := 20) (b := (120, 0)) dX12_comes_15 rfl rfl ck_13 (by decide) fl_X12_50 rfl hs rfl ?_
  refine g_iload_n (pc' := 19) dX12_comes_18 rfl rfl ?_
  refine g_iconst (v := -1) (pc' := 20) dX12_comes_19 rfl (by decide) ?_
  refine g_iastN (pc' := 21) dX12_comes_20 rfl rfl (by decide) (by omega) ?_
  refine g_aload_n (pc' := 22) dX12_comes_21 rfl rfl ?_
  refine g_getS (pc' := 25) (k := 23) (b := (123, 0)) dX12_comes_22 rfl rfl ck_13 (by decide) fl_X12_59 rfl hs rfl ?_
  refine g_iload_n (pc' := 26) dX12_comes_25 rfl rfl ?_
  refine g_aload_n (pc' := 27) dX12_comes_26 rfl rfl ?_
  refine g_getI (pc' := 30) (k := 2) dX12_comes_27 rfl rfl ck_13 (by decide) fl_X12_219 rfl ?_
  refine g_iastN (pc' := 31) dX12_comes_30 rfl rfl (by decide) (by omega) ?_
  refine g_vret dX12_comes_31 rfl (by decide) (by decide) ?_
  exact ⟨rfl, rfl⟩
set_option maxRecDepth 4000 in
theorem cm_writes {E : En} (hok : EOK E) {h : Hp} (hs : Shp h.2) {n : Nat} (hn : n < 600) (h70 : h.1 MO 70 = nI n) (t w : Int32) : Fm E m_X12_writes 0 [vR MO, vI (t), vI (w)] h (none) (wrtH h n t w) := by
  refine Call.enter hok (by decide) (Nat.le_of_ble_eq_true rfl) ?_
  show G E m_X12_writes 0 0 0 _ h 0 [some (vR MO), some (vI t), some (vI w)] [] h 0 0
  refine g_aload_n (pc' := 1) dX12_writes_0 rfl rfl ?_
  refine g_getS (pc' := 4) (k := 72) (b := (172, 0)) dX12_writes_1 rfl rfl ck_13 (by decide) fl_X12_153 rfl hs rfl ?_
  refine g_aload_n (pc' := 5) dX12_writes_4 rfl rfl ?_
  refine g_getIv (v := nI (n)) (pc' := 8) (k := 70) dX12_writes_5 rfl rfl ck_13 (by decide) fl_X12_449 rfl (h70) ?_
  refine g_iload_n (pc' := 9) dX12_writes_8 rfl rfl ?_
  refine g_iastN (pc' := 10) dX12_writes_9 rfl rfl (by decide) (by omega) ?_
  refine g_aload_n (pc' := 11) dX12_writes_10 rfl rfl ?_
  refine g_getS (pc' := 14) (k := 73) (b := (173, 0)) dX12_writes_11 rfl rfl ck_13 (by decide) fl_X12_156 rfl hs rfl ?_
  refine g_aload_n (pc' := 15) dX12_writes_14 rfl rfl ?_
  refine g_getIv (v := nI (n)) (pc' := 18) (k := 70) dX12_writes_15 rfl rfl ck_13 (by decide) fl_X12_449 rfl (h70) ?_
  refine g_iload_n (pc' := 19) dX12_writes_18 rfl rfl ?_
  refine g_iastN (pc' := 20) dX12_writes_19 rfl rfl (by decide) (by omega) ?_
  refine g_aload_n (pc' := 21) dX12_writes_20 rfl rfl ?_
  refine g_getS (pc' := 24) (k := 74) (b := (174, 0)) dX12_writes_21 rfl rfl ck_13 (by decide) fl_X12_159 rfl hs rfl ?_
  refine g_aload_n (pc' := 25) dX12_writes_24 rfl rfl ?_
  refine g_getIv (v := nI (n)) (pc' := 28) (k := 70) dX12_writes_25 rfl rfl ck_13 (by decide) fl_X12_449 rfl (h70) ?_
  refine g_aload_n (pc' := 29) dX12_writes_28 rfl rfl ?_
  refine g_getI (pc' := 32) (k := 2) dX12_writes_29 rfl rfl ck_13 (by decide) fl_X12_219 rfl ?_
  refine g_iastN (pc' := 33) dX12_writes_32 rfl rfl (by decide) (by omega) ?_
  refine g_aload_n (pc' := 34) dX12_writes_33 rfl rfl ?_
  refine g_getS (pc' := 37) (k := 75) (b := (175, 0)) dX12_writes_34 rfl rfl ck_13 (by decide) fl_X12_162 rfl hs rfl ?_
  refine g_aload_n (pc' := 38) dX12_writes_37 rfl rfl ?_
  refine g_getIv (v := nI (n)) (pc' := 41) (k := 70) dX12_writes_38 rfl rfl ck_13 (by decide) fl_X12_449 rfl (h70) ?_
  refine g_aload_n (pc' := 42) dX12_writes_41 rfl rfl ?_
  refine g_getI (pc' := 45) (k := 2) dX12_writes_42 rfl rfl ck_13 (by decide) fl_X12_219 rfl ?_
  refine g_aload_n (pc' := 46) dX12_writes_45 rfl rfl ?_
  refine g_getI (pc' := 49) (k := 7) dX12_writes_46 rfl rfl ck_13 (by decide) fl_X12_252 rfl ?_
  refine g_iadd (pc' := 50) dX12_writes_49 rfl ?_
  refine g_iastN (pc' := 51) dX12_writes_50 rfl rfl (by decide) (by omega) ?_
  refine g_aload_n (pc' := 52) dX12_writes_51 rfl rfl ?_
  refine g_getS (pc' := 55) (k := 78) (b := (178, 0)) dX12_writes_52 rfl rfl ck_13 (by decide) fl_X12_171 rfl hs rfl ?_
  refine g_aload_n (pc' := 56) dX12_writes_55 rfl rfl ?_
  refine g_getIv (v := nI (n)) (pc' := 59) (k := 70) dX12_writes_56 rfl rfl ck_13 (by decide) fl_X12_449 rfl (h70) ?_
  refine g_iconstN (n := 0) (pc' := 60) dX12_writes_59 rfl ?_
  refine g_zastN (pc' := 61) dX12_writes_60 rfl rfl (by decide) (by omega) ?_
  refine g_aload_n (pc' := 62) dX12_writes_61 rfl rfl ?_
  refine g_dup (pc' := 63) dX12_writes_62 rfl rfl ?_
  refine g_getIv (v := nI (n)) (pc' := 66) (k := 70) dX12_writes_63 rfl rfl ck_13 (by decide) fl_X12_449 rfl (h70) ?_
  refine g_iconstN (n := 1) (pc' := 67) dX12_writes_66 rfl ?_
  refine g_iaddN (pc' := 68) dX12_writes_67 rfl ?_
  refine g_putI (pc' := 71) (k := 70) dX12_writes_68 rfl rfl ck_13 (by decide) fl_X12_449 rfl rfl rfl rfl ?_
  refine g_vret dX12_writes_71 rfl (by decide) (by decide) ?_
  exact ⟨rfl, rfl⟩
