set_option maxRecDepth 4000 in
theorem lx_tapeNumber {E : En} (hok : EOK E) {h h0 : Hp} {m : St} (hc : Cp m h) (hw : Wf m) {k : Nat} (hk : k < 55) {d : Nat} (hd : 1 ≤ d) {Q : Option V → Hp → Prop} (hQ : Q (some (vI (nat4 m k 4))) h) : ∀ n i : Nat, i ≤ 4 → 4 - i = n → G E m_X11_tapeNumber d 0 0 Q h0 6 [some (vR TH), some (vI (nI k)), some (vI (nat4 m k i)), some (vI (nI (4 * k + i)))] [] (h) 0 0 := by
  have hs := hc.s
  have hKb := hw.k.2
  have hTb := hw.t.2
  have hFb := hw.f.2
  have hRb := hw.r.2
  have hGb := hw.g.2
  have hAb := hw.a.2
  have hTlb := hw.tl.2
  have hNwb := hw.w.2
  intro n
  induction n with
  | zero =>
    intro i h1 h2
    refine g_iload_n (pc' := 7) dX11_tapeNumber_6 rfl rfl ?_
    refine g_iconstN (n := 4) (pc' := 8) dX11_tapeNumber_7 rfl ?_
    refine g_iload_n (pc' := 9) dX11_tapeNumber_8 rfl rfl ?_
    refine g_imulN (pc' := 10) dX11_tapeNumber_9 rfl ?_
    refine g_iconstN (n := 4) (pc' := 11) dX11_tapeNumber_10 rfl ?_
    refine g_iaddN (pc' := 12) dX11_tapeNumber_11 rfl ?_
    refine g_icmp_geN (tgt := 48) (pc' := 15) dX11_tapeNumber_12 rfl (by decide) (by omega) (by omega) (fun c12 => ?_) (fun c12 => ?_)
    ·
      refine g_iload_n (pc' := 49) dX11_tapeNumber_48 rfl rfl ?_
      refine g_iret dX11_tapeNumber_49 rfl (by decide) (by decide) ?_
      have e : i = 4 := by omega
      subst e
      exact hQ
    · exact absurd c12 (by omega)
  | succ n ih =>
    intro i h1 h2
    refine g_iload_n (pc' := 7) dX11_tapeNumber_6 rfl rfl ?_
    refine g_iconstN (n := 4) (pc' := 8) dX11_tapeNumber_7 rfl ?_
    refine g_iload_n (pc' := 9) dX11_tapeNumber_8 rfl rfl ?_
    refine g_imulN (pc' := 10) dX11_tapeNumber_9 rfl ?_
    refine g_iconstN (n := 4) (pc' := 11) dX11_tapeNumber_10 rfl ?_
    refine g_iaddN (pc' := 12) dX11_tapeNumber_11 rfl ?_
    refine g_icmp_geN (tgt := 48) (pc' := 15) dX11_tapeNumber_12 rfl (by decide) (by omega) (by omega) (fun c12 => ?_) (fun c12 => ?_)
    · exact absurd c12 (by omega)
    ·
      refine g_iload_n (pc' := 16) dX11_tapeNumber_15 rfl rfl ?_
      refine g_bipushN (n := 8) (pc' := 18) dX11_tapeNumber_16 rfl (by decide) ?_
      refine g_ishl (pc' := 19) dX11_tapeNumber_18 rfl ?_
      refine g_iload_n (pc' := 20) dX11_tapeNumber_19 rfl rfl ?_
      refine g_iconstN (n := 0) (pc' := 21) dX11_tapeNumber_20 rfl ?_
      refine g_sipushN (n := 219) (pc' := 24) dX11_tapeNumber_21 rfl (by decide) ?_
      refine g_invS (pc' := 27) (cx_within hok _ _ _) dX11_tapeNumber_24 rfl ml_X11_99 st_X11_within in_X11 co_X11_within pd_X11_within rfl (by omega) (by decide) ⟨by decide, by decide⟩ (Nat.le_of_ble_eq_true rfl) ?_
      rintro _ _ ⟨rfl, rfl⟩ -
      refine g_ifB_eq (tgt := 39) (pc' := 30) dX11_tapeNumber_27 rfl (by decide) (fun c27 => ?_) (fun c27 => ?_)
      · exact absurd ⟨nI_le (Nat.zero_le _) (by omega), nI_le (show 4 * k + i ≤ 219 by omega) (by decide)⟩ c27
      ·
        refine g_aload_n (pc' := 31) dX11_tapeNumber_30 rfl rfl ?_
        refine g_getS (pc' := 34) (k := 6) (b := (20, 0)) dX11_tapeNumber_31 rfl rfl ck_12 (by decide) fl_X11_9 rfl hs rfl ?_
        refine g_iload_n (pc' := 35) dX11_tapeNumber_34 rfl rfl ?_
        refine g_ialdN (pc' := 36) (v := m 100 (4 * k + i) &&& nI 255) dX11_tapeNumber_35 rfl rfl (by decide) (by omega) (hc.c2 _ (by omega)) ?_
        refine g_goto (tgt := 40) dX11_tapeNumber_36 (by decide) ?_
        refine g_ior (pc' := 41) dX11_tapeNumber_40 rfl ?_
        refine g_istore_n (pc' := 42) dX11_tapeNumber_41 rfl (by decide) rfl ?_
        try simp only [List.set]
        refine g_iincN (k := 1) (pc' := 45) dX11_tapeNumber_42 rfl rfl (by decide) rfl ?_
        try simp only [List.set]
        refine g_goto (tgt := 6) dX11_tapeNumber_45 (by decide) ?_
        exact ih (i + 1) (by omega) (by omega)
set_option maxRecDepth 4000 in
theorem cx_tapeNumber {E : En} (hok : EOK E) {h : Hp} {m : St} (hc : Cp m h) (hw : Wf m) {k : Nat} (hk : k < 55) : Call E m_X11_tapeNumber 1 0 0 [vR TH, vI (nI k)] h (fun r0 h' => r0 = some (vI (nat4 m k 4)) ∧ h = h') := by
  have hs := hc.s
  have hKb := hw.k.2
  have hTb := hw.t.2
  have hFb := hw.f.2
  have hRb := hw.r.2
  have hGb := hw.g.2
  have hAb := hw.a.2
  have hTlb := hw.tl.2
  have hNwb := hw.w.2
  refine Call.enter hok (by decide) (Nat.le_of_ble_eq_true rfl) ?_
  show G E m_X11_tapeNumber 1 0 0 _ h 0 [some (vR TH), some (vI (nI k)), none, none] [] h 0 0
  refine g_iconst (v := 0) (pc' := 1) dX11_tapeNumber_0 rfl (by decide) ?_
  refine g_istore_n (pc' := 2) dX11_tapeNumber_1 rfl (by decide) rfl ?_
  try simp only [List.set]
  refine g_iconstN (n := 4) (pc' := 3) dX11_tapeNumber_2 rfl ?_
  refine g_iload_n (pc' := 4) dX11_tapeNumber_3 rfl rfl ?_
  refine g_imulN (pc' := 5) dX11_tapeNumber_4 rfl ?_
  refine g_istore_n (pc' := 6) dX11_tapeNumber_5 rfl (by decide) rfl ?_
  try simp only [List.set]
  exact lx_tapeNumber hok hc hw hk (Nat.le_refl _) ⟨rfl, rfl⟩ _ 0 (Nat.zero_le _) rfl
set_option maxRecDepth 4000 in
theorem lx_firstWrong {E : En} (hok : EOK E) {h h0 : Hp} {m : St} (hc : Cp m h) (hw : Wf m) (hx : Wx m) {t N : Nat} (ht : t < nT m) (hN : N ≤ 27) {d : Nat} (hd : 2 ≤ d) {Q : Option V → Hp → Prop} (hQ : True) : ∀ n s x : Nat, s ≤ 6 → 6 - s = n → (x ≤ s ∧ x ≤ N ∧ Q (some (vI (chkF m t N (6 - s) x))) h) → G E m_X11_firstWrongNumber d 0 0 Q h0 5 [some (vR TH), some (vR (3, t)), some (vI (nI (2 * N))), some (vI (nI (2 * x))), some (vI (nI s))] [] (h) 0 0 := by
  have hs := hc.s
  have hKb := hw.k.2
  have hTb := hw.t.2
  have hFb := hw.f.2
  have hRb := hw.r.2
  have hGb := hw.g.2
  have hAb := hw.a.2
  have hTlb := hw.tl.2
  have hNwb := hw.w.2
  have hkd := (hw.kd ht).2
  intro n
  induction n with
  | zero =>
    intro s x h1 h2 hi
    have hi1 := hi.1
    have hi2 := hi.2.1
    refine g_iload (pc' := 7) dX11_firstWrongNumber_5 rfl rfl ?_
    refine g_bipushN (n := 6) (pc' := 9) dX11_firstWrongNumber_7 rfl (by decide) ?_
    refine g_icmp_geN (tgt := 72) (pc' := 12) dX11_firstWrongNumber_9 rfl (by decide) (by omega) (by omega) (fun c9 => ?_) (fun c9 => ?_)
    ·
      refine g_iload_n (pc' := 73) dX11_firstWrongNumber_72 rfl rfl ?_
      refine g_iload_n (pc' := 74) dX11_firstWrongNumber_73 rfl rfl ?_
      refine g_icmp_geN (tgt := 81) (pc' := 77) dX11_firstWrongNumber_74 rfl (by decide) (by omega) (by omega) (fun c74 => ?_) (fun c74 => ?_)
      ·
        refine g_iconst (v := -1) (pc' := 82) dX11_firstWrongNumber_81 rfl (by decide) ?_
        refine g_iret dX11_firstWrongNumber_82 rfl (by decide) (by decide) ?_
        have e : s = 6 := by omega
        subst e
        have q := hi.2.2
        rw [show 6 - 6 = 0 from rfl] at q
        unfold chkF at q
        rw [cif_t (show x = N by omega)] at q
        exact q
      ·
        refine g_iload_n (pc' := 78) dX11_firstWrongNumber_77 rfl rfl ?_
        refine g_goto (tgt := 82) dX11_firstWrongNumber_78 (by decide) ?_
        refine g_iret dX11_firstWrongNumber_82 rfl (by decide) (by decide) ?_
        have e : s = 6 := by omega
        subst e
        have q := hi.2.2
        rw [show 6 - 6 = 0 from rfl] at q
        unfold chkF at q
        rw [cif_f (show ¬ x = N by omega)] at q
        exact q
    · exact absurd c9 (by omega)
  | succ n ih =>
    intro s x h1 h2 hi
    have hi1 := hi.1
    have hi2 := hi.2.1
    refine g_iload (pc' := 7) dX11_firstWrongNumber_5 rfl rfl ?_
    refine g_bipushN (n := 6) (pc' := 9) dX11_firstWrongNumber_7 rfl (by decide) ?_
    refine g_icmp_geN (tgt := 72) (pc' := 12) dX11_firstWrongNumber_9 rfl (by decide) (by omega) (by omega) (fun c9 => ?_) (fun c9 => ?_)
    · exact absurd c9 (by omega)
    ·
      have hpb := (pc_n hx hkd (show s < 6 by omega)).2
      refine g_aload_n (pc' := 13) dX11_firstWrongNumber_12 rfl rfl ?_
      refine g_getR (pc' := 16) (k := 1) (r := some (2, kd m t)) dX11_firstWrongNumber_13 rfl rfl ck_9 (by decide) fl_X11_203 rfl ((hc.c6.2.1 _ (by omega)).1) ?_
      refine g_getS (pc' := 19) (k := 6) (b := (24, kd m t)) dX11_firstWrongNumber_16 rfl rfl ck_3 (by decide) fl_X11_127 rfl hs rfl ?_
      refine g_iload (pc' := 21) dX11_firstWrongNumber_19 rfl rfl ?_
      refine g_ialdN (pc' := 22) (v := nI (pcN m (kd m t) s)) dX11_firstWrongNumber_21 rfl rfl (by decide) (by omega) (((hc.c5.2.1 _ hkd).2.1 s (by omega)).trans (pc_n hx hkd (show s < 6 by omega)).1) ?_
      refine g_if_leN (tgt := 66) (pc' := 25) dX11_firstWrongNumber_22 rfl (by decide) (by omega) (fun c22 => ?_) (fun c22 => ?_)
      ·
        refine g_iincN (k := 1) (pc' := 69) dX11_firstWrongNumber_66 rfl rfl (by decide) rfl ?_
        try simp only [List.set]
        refine g_goto (tgt := 5) dX11_firstWrongNumber_69 (by decide) ?_
        have q := hi.2.2
        rw [h2, chkF_s, show 5 - n = s by omega, cif_t (show m 113 (6 * kd m t + s) = 0 from ((pc_n hx hkd (show s < 6 by omega)).1.trans (by rw [c22]; rfl)))] at q
        rw [show n = 6 - (s + 1) by omega] at q
        exact ih (s + 1) x (by omega) (by omega) ⟨by omega, by omega, q⟩
      ·
        refine g_iload_n (pc' := 26) dX11_firstWrongNumber_25 rfl rfl ?_
        refine g_iload_n (pc' := 27) dX11_firstWrongNumber_26 rfl rfl ?_
        refine g_icmp_geN (tgt := 40) (pc' := 30) dX11_firstWrongNumber_27 rfl (by decide) (by omega) (by omega) (fun c27 => ?_) (fun c27 => ?_)
        ·
          refine g_iload_n (pc' := 41) dX11_firstWrongNumber_40 rfl rfl ?_
          refine g_iret dX11_firstWrongNumber_41 rfl (by decide) (by decide) ?_
          have q := hi.2.2
          rw [h2, chkF_s, show 5 - n = s by omega, cif_f (show ¬ m 113 (6 * kd m t + s) = 0 from (fun z => c22 ((nI_eq0 (by omega)).mp ((pc_n hx hkd (show s < 6 by omega)).1.symm.trans z))))] at q
          rw [cif_t (show x = N by omega)] at q
          have ex : x = N := by omega
          subst ex
          exact q
        ·
          refine g_aload_n (pc' := 31) dX11_firstWrongNumber_30 rfl rfl ?_
          refine g_iload_n (pc' := 32) dX11_firstWrongNumber_31 rfl rfl ?_
          refine g_invV (pc' := 35) (cx_tapeNumber hok hc hw (k := (2 * x)) (by omega)) dX11_firstWrongNumber_32 rfl rfl ck_12 rfl ml_X11_458 im_X11_tapeNumber sl_X11_tapeNumber in_X11 co_X11_tapeNumber pd_X11_tapeNumber rfl (by omega) (by decide) ⟨by decide, by decide⟩ (Nat.le_of_ble_eq_true rfl) ?_
          rintro _ _ ⟨rfl, rfl⟩ -
          refine g_iload (pc' := 37) dX11_firstWrongNumber_35 rfl rfl ?_
          refine g_icmp_eq (tgt := 42) (pc' := 40) dX11_firstWrongNumber_37 rfl (by decide) (fun c37 => ?_) (fun c37 => ?_)
          ·
            refine g_aload_n (pc' := 43) dX11_firstWrongNumber_42 rfl rfl ?_
            refine g_iload_n (pc' := 44) dX11_firstWrongNumber_43 rfl rfl ?_
            refine g_iconstN (n := 1) (pc' := 45) dX11_firstWrongNumber_44 rfl ?_
            refine g_iaddN (pc' := 46) dX11_firstWrongNumber_45 rfl ?_
            refine g_invV (pc' := 49) (cx_tapeNumber hok hc hw (k := ((2 * x) + 1)) (by omega)) dX11_firstWrongNumber_46 rfl rfl ck_12 rfl ml_X11_458 im_X11_tapeNumber sl_X11_tapeNumber in_X11 co_X11_tapeNumber pd_X11_tapeNumber rfl (by omega) (by decide) ⟨by decide, by decide⟩ (Nat.le_of_ble_eq_true rfl) ?_
            rintro _ _ ⟨rfl, rfl⟩ -
            refine g_aload_n (pc' := 50) dX11_firstWrongNumber_49 rfl rfl ?_
            refine g_getS (pc' := 53) (k := 3) (b := (26, t)) dX11_firstWrongNumber_50 rfl rfl ck_9 (by decide) fl_X11_287 rfl hs rfl ?_
            refine g_iload (pc' := 55) dX11_firstWrongNumber_53 rfl rfl ?_
            refine g_ialdN (pc' := 56) (v := m 125 (6 * t + s)) dX11_firstWrongNumber_55 rfl rfl (by decide) (by omega) ((hc.c6.2.1 t ht).2.2 s (by omega)) ?_
            refine g_icmp_eq (tgt := 63) (pc' := 59) dX11_firstWrongNumber_56 rfl (by decide) (fun c56 => ?_) (fun c56 => ?_)
            ·
              refine g_iincN (k := 2) (pc' := 66) dX11_firstWrongNumber_63 rfl rfl (by decide) rfl ?_
              try simp only [List.set]
              refine g_iincN (k := 1) (pc' := 69) dX11_firstWrongNumber_66 rfl rfl (by decide) rfl ?_
              try simp only [List.set]
              refine g_goto (tgt := 5) dX11_firstWrongNumber_69 (by decide) ?_
              have q := hi.2.2
              rw [h2, chkF_s, show 5 - n = s by omega, cif_f (show ¬ m 113 (6 * kd m t + s) = 0 from (fun z => c22 ((nI_eq0 (by omega)).mp ((pc_n hx hkd (show s < 6 by omega)).1.symm.trans z)))), cif_f (show ¬ x = N by omega), cif_t (show nat4 m (2 * x) 4 = nI s from c37), cif_t (show nat4 m (2 * x + 1) 4 = m 125 (6 * t + s) from c56)] at q
              rw [show n = 6 - (s + 1) by omega] at q
              have q2 := ih (s + 1) (x + 1) (by omega) (by omega) ⟨by omega, by omega, q⟩
              rw [show 2 * (x + 1) = 2 * x + 2 by omega] at q2
              exact q2
            ·
              refine g_iload_n (pc' := 60) dX11_firstWrongNumber_59 rfl rfl ?_
              refine g_iconstN (n := 1) (pc' := 61) dX11_firstWrongNumber_60 rfl ?_
              refine g_iaddN (pc' := 62) dX11_firstWrongNumber_61 rfl ?_
              refine g_iret dX11_firstWrongNumber_62 rfl (by decide) (by decide) ?_
              have q := hi.2.2
              rw [h2, chkF_s, show 5 - n = s by omega, cif_f (show ¬ m 113 (6 * kd m t + s) = 0 from (fun z => c22 ((nI_eq0 (by omega)).mp ((pc_n hx hkd (show s < 6 by omega)).1.symm.trans z))))] at q
              rw [cif_f (show ¬ x = N by omega), cif_t (show nat4 m (2 * x) 4 = nI s from c37), cif_f (show ¬ nat4 m (2 * x + 1) 4 = m 125 (6 * t + s) from c56)] at q
              exact q
          ·
            refine g_iload_n (pc' := 41) dX11_firstWrongNumber_40 rfl rfl ?_
            refine g_iret dX11_firstWrongNumber_41 rfl (by decide) (by decide) ?_
            have q := hi.2.2
            rw [h2, chkF_s, show 5 - n = s by omega, cif_f (show ¬ m 113 (6 * kd m t + s) = 0 from (fun z => c22 ((nI_eq0 (by omega)).mp ((pc_n hx hkd (show s < 6 by omega)).1.symm.trans z))))] at q
            rw [cif_f (show ¬ x = N by omega), cif_f (show ¬ nat4 m (2 * x) 4 = nI s from c37)] at q
            exact q
set_option maxRecDepth 4000 in
theorem cx_firstWrong {E : En} (hok : EOK E) {h : Hp} {m : St} (hc : Cp m h) (hw : Wf m) (hx : Wx m) {t N : Nat} (ht : t < nT m) (hN : N ≤ 27) : Call E m_X11_firstWrongNumber 2 0 0 [vR TH, vR (3, t), vI (nI (2 * N))] h (fun r0 h' => r0 = some (vI (chkF m t N 6 0)) ∧ h = h') := by
  have hs := hc.s
  have hKb := hw.k.2
  have hTb := hw.t.2
  have hFb := hw.f.2
  have hRb := hw.r.2
  have hGb := hw.g.2
  have hAb := hw.a.2
  have hTlb := hw.tl.2
  have hNwb := hw.w.2
  refine Call.enter hok (by decide) (Nat.le_of_ble_eq_true rfl) ?_
  show G E m_X11_firstWrongNumber 2 0 0 _ h 0 [some (vR TH), some (vR (3, t)), some (vI (nI (2 * N))), none, none] [] h 0 0
  refine g_iconstN (n := 0) (pc' := 1) dX11_firstWrongNumber_0 rfl ?_
  refine g_istore_n (pc' := 2) dX11_firstWrongNumber_1 rfl (by decide) rfl ?_
  try simp only [List.set]
  refine g_iconstN (n := 0) (pc' := 3) dX11_firstWrongNumber_2 rfl ?_
  refine g_istore (pc' := 5) dX11_firstWrongNumber_3 rfl (by decide) rfl ?_
  try simp only [List.set]
  exact lx_firstWrong hok hc hw hx ht hN (Nat.le_refl _) trivial _ 0 0 (Nat.zero_le _) rfl ⟨Nat.le_refl _, Nat.zero_le _, rfl, rfl⟩
theorem nat4_tl (m : St) (y : Int32) (k : Nat) : ∀ n, nat4 (stU m 1 1 y) k n = nat4 m k n
  | 0 => rfl
  | n + 1 => by rw [nat4_s, nat4_s, nat4_tl m y k n]; rfl
theorem chkF_tl (m : St) (y : Int32) (t n : Nat) : ∀ k x, chkF (stU m 1 1 y) t n k x = chkF m t n k x
  | 0, _ => rfl
  | k + 1, x => by
    rw [chkF_s, chkF_s, chkF_tl m y t n k x, chkF_tl m y t n k (x + 1), nat4_tl, nat4_tl]
    rfl
set_option maxRecDepth 4000 in
theorem cx_check {E : En} (hok : EOK E) {h : Hp} {m : St} (hc : Cp m h) (hw : Wf m) (hx : Wx m) (t0 : Int32) (n0 : Int32) : Call E m_X11_check 4 0 0 [vR TH, vI t0, vI n0] h (fun r h' => r = some (vI (sCheck m t0 n0).1) ∧ Cp (sCheck m t0 n0).2 h' ∧ mo h' = mo h) := by
  have hs := hc.s
  have hKb := hw.k.2
  have hTb := hw.t.2
  have hFb := hw.f.2
  have hRb := hw.r.2
  have hGb := hw.g.2
  have hAb := hw.a.2
  have hTlb := hw.tl.2
  have hNwb := hw.w.2
  refine Call.enter hok (by decide) (Nat.le_of_ble_eq_true rfl) ?_
  show G E m_X11_check 4 0 0 _ h 0 [some (vR TH), some (vI t0), some (vI n0), none, none] [] h 0 0
  refine g_aload_n (pc' := 1) dX11_check_0 rfl rfl ?_
  refine g_iload_n (pc' := 2) dX11_check_1 rfl rfl ?_
  rcases Classical.em (∃ j : Nat, j < nT m ∧ t0 = nI j) with w2 | w2
  ·
    have k2 := w2
    obtain ⟨t, ht, rfl⟩ := k2
    refine g_invV (pc' := 5) (cx_toyAt hok hc hw ht) dX11_check_2 rfl rfl ck_12 rfl ml_X11_151 im_X11_toyAt sl_X11_toyAt in_X11 co_X11_toyAt pd_X11_toyAt rfl (by omega) (by decide) ⟨by decide, by decide⟩ (Nat.le_of_ble_eq_true rfl) ?_
    rintro _ _ ⟨rfl, rfl⟩ -
    refine g_astore_n (pc' := 6) dX11_check_5 rfl (by decide) rfl ?_
    try simp only [List.set]
    refine g_aload_n (pc' := 7) dX11_check_6 rfl rfl ?_
    refine g_ifnull (pc' := 10) dX11_check_7 rfl ?_
    refine g_iload_n (pc' := 11) dX11_check_10 rfl rfl ?_
    refine g_if_lt (tgt := 25) (pc' := 14) dX11_check_11 rfl (by decide) (fun c11 => ?_) (fun c11 => ?_)
    ·
      refine g_bipush (v := -2) (pc' := 27) dX11_check_25 rfl (by decide) ?_
      refine g_iret dX11_check_27 rfl (by decide) (by decide) ?_
      have e : sCheck m (nI t) n0 = (-2, m) := cif_f (fun z => by obtain ⟨j, hj, rfl⟩ := z.2; exact absurd c11 (nI_pos (by omega)))
      rw [e]
      exact ⟨rfl, hc, rfl⟩
    ·
      obtain ⟨N, hNn, rfl⟩ := nI_of (x := n0) c11
      refine g_iload_n (pc' := 15) dX11_check_14 rfl rfl ?_
      refine g_aload_n (pc' := 16) dX11_check_15 rfl rfl ?_
      refine g_getIv (v := nI (nTl m)) (pc' := 19) (k := 4) dX11_check_16 rfl rfl ck_12 (by decide) fl_X11_165 rfl (hc.c1.2.2.2.2.trans hw.tl.1) ?_
      refine g_bipushN (n := 8) (pc' := 21) dX11_check_19 rfl (by decide) ?_
      refine g_idivN (pc' := 22) dX11_check_21 rfl (by omega) (by omega) (by omega) ?_
      refine g_icmp_leN (tgt := 28) (pc' := 25) dX11_check_22 rfl (by decide) (by omega) (by omega) (fun c22 => ?_) (fun c22 => ?_)
      ·
        refine g_aload_n (pc' := 29) dX11_check_28 rfl rfl ?_
        refine g_aload_n (pc' := 30) dX11_check_29 rfl rfl ?_
        refine g_iconstN (n := 2) (pc' := 31) dX11_check_30 rfl ?_
        refine g_iload_n (pc' := 32) dX11_check_31 rfl rfl ?_
        refine g_imulN (pc' := 33) dX11_check_32 rfl ?_
        refine g_invV (pc' := 36) (cx_firstWrong hok hc hw hx (t := t) (N := N) (by omega) (by omega)) dX11_check_33 rfl rfl ck_12 rfl ml_X11_188 im_X11_firstWrongNumber sl_X11_firstWrongNumber in_X11 co_X11_firstWrongNumber pd_X11_firstWrongNumber rfl (by omega) (by decide) ⟨by decide, by decide⟩ (Nat.le_of_ble_eq_true rfl) ?_
        rintro _ _ ⟨rfl, rfl⟩ -
        refine g_istore (pc' := 38) dX11_check_36 rfl (by decide) rfl ?_
        try simp only [List.set]
        refine g_aload_n (pc' := 39) dX11_check_38 rfl rfl ?_
        refine g_iconstN (n := 0) (pc' := 40) dX11_check_39 rfl ?_
        refine g_putI (pc' := 43) (k := 4) dX11_check_40 rfl rfl ck_12 (by decide) fl_X11_165 rfl rfl rfl rfl ?_
        refine g_iload (pc' := 45) dX11_check_43 rfl rfl ?_
        refine g_iret dX11_check_45 rfl (by decide) (by decide) ?_
        have e : sCheck m (nI t) (nI N) = (chkF (stU m 1 1 (nI 0)) t N 6 0, stU m 1 1 (nI 0)) := by unfold sCheck; simp only [nI_clamp (show t < 2 ^ 31 by omega), nI_clamp (show N < 2 ^ 31 by omega)]; exact cif_t ⟨w2, N, by omega, rfl⟩
        rw [e, chkF_tl]
        exact ⟨rfl, ⟨hc.s, hc.e, ⟨hc.c1.1, hc.c1.2.1, hc.c1.2.2.1, hc.c1.2.2.2.1, rfl⟩, hc.c2, hc.c3, hc.c4, hc.c5, hc.c6, hc.c7, hc.c8, hc.c9, hc.c10, C11.same hc.c11 rfl rfl rfl rfl rfl rfl (fun _ => rfl) rfl, hc.c12, hc.c13⟩, mo_off rfl⟩
      ·
        refine g_bipush (v := -2) (pc' := 27) dX11_check_25 rfl (by decide) ?_
        refine g_iret dX11_check_27 rfl (by decide) (by decide) ?_
        have e : sCheck m (nI t) (nI N) = (-2, m) := cif_f (fun z => by obtain ⟨j, hj, e⟩ := z.2; rw [nI_eq (by omega) (by omega)] at e; omega)
        rw [e]
        exact ⟨rfl, hc, rfl⟩
  ·
    refine g_invV (pc' := 5) (cx_toyAtN hok hc hw w2) dX11_check_2 rfl rfl ck_12 rfl ml_X11_151 im_X11_toyAt sl_X11_toyAt in_X11 co_X11_toyAt pd_X11_toyAt rfl (by omega) (by decide) ⟨by decide, by decide⟩ (Nat.le_of_ble_eq_true rfl) ?_
    rintro _ _ ⟨rfl, rfl⟩ -
    refine g_astore_n (pc' := 6) dX11_check_5 rfl (by decide) rfl ?_
    try simp only [List.set]
    refine g_aload_n (pc' := 7) dX11_check_6 rfl rfl ?_
    refine g_ifnullN (tgt := 25) dX11_check_7 (by decide) ?_
    refine g_bipush (v := -2) (pc' := 27) dX11_check_25 rfl (by decide) ?_
    refine g_iret dX11_check_27 rfl (by decide) (by decide) ?_
    have e : sCheck m t0 n0 = (-2, m) := cif_f (fun z => w2 z.1)
    rw [e]
    exact ⟨rfl, hc, rfl⟩
set_option maxRecDepth 4000 in
theorem lx_hasToys {E : En} (hok : EOK E) {h h0 : Hp} {m : St} (hc : Cp m h) (hw : Wf m) {k : Nat} (hk : k < nK m) {d : Nat} (hd : 3 ≤ d) {Q : Option V → Hp → Prop} (hQ : Q (some (vI (bi (¬ ∀ t, t < nT m → ¬ kd m t = k)))) h) : ∀ n t : Nat, t ≤ nT m → nT m - t = n → (∀ i, i < t → ¬ kd m i = k) → G E m_X11_hasToys d 0 0 Q h0 2 [some (vR TH), some (vR (2, k)), some (vI (nI t))] [] (h) 0 0 := by
  have hs := hc.s
  have hKb := hw.k.2
  have hTb := hw.t.2
  have hFb := hw.f.2
  have hRb := hw.r.2
  have hGb := hw.g.2
  have hAb := hw.a.2
  have hTlb := hw.tl.2
  have hNwb := hw.w.2
  intro n
  induction n with
  | zero =>
    intro t h1 h2 hi
    refine g_iload_n (pc' := 3) dX11_hasToys_2 rfl rfl ?_
    refine g_aload_n (pc' := 4) dX11_hasToys_3 rfl rfl ?_
    refine g_getS (pc' := 7) (k := 11) (b := (13, 1)) dX11_hasToys_4 rfl rfl ck_12 (by decide) fl_X11_35 rfl hs rfl ?_
    refine g_invV (pc' := 10) (ls_size hok hc.c6.1) dX11_hasToys_7 rfl rfl ck_0 rfl ml_X11_103 im_Jx4a65c_size_8abf5 sl_Jx4a65c_size_8abf5 in_Jx4a65c co_Jx4a65c_size_8abf5 pd_Jx4a65c_size_8abf5 rfl (by omega) (by decide) ⟨by decide, by decide⟩ (Nat.le_of_ble_eq_true rfl) ?_
    rintro _ _ ⟨rfl, rfl⟩ -
    refine g_icmp_geN (tgt := 39) (pc' := 13) dX11_hasToys_10 rfl (by decide) (by omega) (by omega) (fun c10 => ?_) (fun c10 => ?_)
    ·
      refine g_iconstN (n := 0) (pc' := 40) dX11_hasToys_39 rfl ?_
      refine g_zret dX11_hasToys_40 rfl (by rfl) (by decide) (by decide) ?_
      rw [bi_f (P := ¬ ∀ t, t < nT m → ¬ kd m t = k) (fun z => z (fun i q => hi i (by omega)))] at hQ
      exact hQ
    · exact absurd c10 (by omega)
  | succ n ih =>
    intro t h1 h2 hi
    refine g_iload_n (pc' := 3) dX11_hasToys_2 rfl rfl ?_
    refine g_aload_n (pc' := 4) dX11_hasToys_3 rfl rfl ?_
    refine g_getS (pc' := 7) (k := 11) (b := (13, 1)) dX11_hasToys_4 rfl rfl ck_12 (by decide) fl_X11_35 rfl hs rfl ?_
    refine g_invV (pc' := 10) (ls_size hok hc.c6.1) dX11_hasToys_7 rfl rfl ck_0 rfl ml_X11_103 im_Jx4a65c_size_8abf5 sl_Jx4a65c_size_8abf5 in_Jx4a65c co_Jx4a65c_size_8abf5 pd_Jx4a65c_size_8abf5 rfl (by omega) (by decide) ⟨by decide, by decide⟩ (Nat.le_of_ble_eq_true rfl) ?_
    rintro _ _ ⟨rfl, rfl⟩ -
    refine g_icmp_geN (tgt := 39) (pc' := 13) dX11_hasToys_10 rfl (by decide) (by omega) (by omega) (fun c10 => ?_) (fun c10 => ?_)
    · exact absurd c10 (by omega)
    ·
      refine g_aload_n (pc' := 14) dX11_hasToys_13 rfl rfl ?_
      refine g_getS (pc' := 17) (k := 11) (b := (13, 1)) dX11_hasToys_14 rfl rfl ck_12 (by decide) fl_X11_35 rfl hs rfl ?_
      refine g_iload_n (pc' := 18) dX11_hasToys_17 rfl rfl ?_
      refine g_invV (pc' := 21) (ls_get hok hc.c6.1 (j := t) (by omega) (by omega)) dX11_hasToys_18 rfl rfl ck_0 rfl ml_X11_324 im_Jx4a65c_get_915e3 sl_Jx4a65c_get_915e3 in_Jx4a65c co_Jx4a65c_get_915e3 pd_Jx4a65c_get_915e3 rfl (by omega) (by decide) ⟨by decide, by decide⟩ (Nat.le_of_ble_eq_true rfl) ?_
      rintro _ _ ⟨rfl, rfl⟩ -
      refine g_cast (pc' := 24) dX11_hasToys_21 rfl rfl ck_9 cl_X11_133 ?_
      refine g_getR (pc' := 27) (k := 1) (r := some (2, kd m t)) dX11_hasToys_24 rfl rfl ck_9 (by decide) fl_X11_203 rfl ((hc.c6.2.1 _ (by omega)).1) ?_
      refine g_aload_n (pc' := 28) dX11_hasToys_27 rfl rfl ?_
      refine g_acmp_ne (tgt := 33) (pc' := 31) dX11_hasToys_28 rfl (by decide) (Nat.le_of_ble_eq_true rfl) (Nat.le_of_ble_eq_true rfl) (fun c28 => ?_) (fun c28 => ?_)
      ·
        refine g_iincN (k := 1) (pc' := 36) dX11_hasToys_33 rfl rfl (by decide) rfl ?_
        try simp only [List.set]
        refine g_goto (tgt := 2) dX11_hasToys_36 (by decide) ?_
        exact ih (t + 1) (by omega) (by omega) (lt_s hi (fun z => c28 (by rw [z])))
      ·
        refine g_iconstN (n := 1) (pc' := 32) dX11_hasToys_31 rfl ?_
        refine g_zret dX11_hasToys_32 rfl (by rfl) (by decide) (by decide) ?_
        rw [bi_t (P := ¬ ∀ t, t < nT m → ¬ kd m t = k) (fun z => z t (by omega) (congrArg Prod.snd c28))] at hQ
        exact hQ
set_option maxRecDepth 4000 in
theorem cx_hasToys {E : En} (hok : EOK E) {h : Hp} {m : St} (hc : Cp m h) (hw : Wf m) {k : Nat} (hk : k < nK m) : Call E m_X11_hasToys 3 0 0 [vR TH, vR (2, k)] h (fun r0 h' => r0 = some (vI (bi (¬ ∀ t, t < nT m → ¬ kd m t = k))) ∧ h = h') := by
  have hs := hc.s
  have hKb := hw.k.2
  have hTb := hw.t.2
  have hFb := hw.f.2
  have hRb := hw.r.2
  have hGb := hw.g.2
  have hAb := hw.a.2
  have hTlb := hw.tl.2
  have hNwb := hw.w.2
  refine Call.enter hok (by decide) (Nat.le_of_ble_eq_true rfl) ?_
  show G E m_X11_hasToys 3 0 0 _ h 0 [some (vR TH), some (vR (2, k)), none] [] h 0 0
  refine g_iconstN (n := 0) (pc' := 1) dX11_hasToys_0 rfl ?_
  refine g_istore_n (pc' := 2) dX11_hasToys_1 rfl (by decide) rfl ?_
  try simp only [List.set]
  exact lx_hasToys hok hc hw hk (Nat.le_refl _) ⟨rfl, rfl⟩ _ 0 (Nat.zero_le _) rfl (fun i q => absurd q (Nat.not_lt_zero i))
theorem C5_pieces {m : St} {h : Hp} (c : C5 m h) {k s : Nat} (hs : s < 6) (n w : Int32) : C5 (stU (stU m 113 (6 * k + s) n) 114 (6 * k + s) w) (wI (wI h (24, k) s n) (25, k) s w) := by
  refine ⟨c.1, fun u hu => ⟨(c.2.1 u hu).1, fun j hj => ?_, fun j hj => ?_⟩, c.2.2⟩
  · have e1 : (wI (wI h (24, k) s n) (25, k) s w).1 (24, u) j = if u = k ∧ j = s then n else h.1 (24, u) j := by
      rw [wI_off _ _ _ _ (24, u) (ad_ne (show (24 : Nat) ≠ 25 by decide)), wI_at]
      simp
    have e2 : stU (stU m 113 (6 * k + s) n) 114 (6 * k + s) w 113 (6 * u + j) = if u = k ∧ j = s then n else m 113 (6 * u + j) := by
      rw [stU_at, if_neg (fun z => absurd z.1 (by decide)), stU_at]
      by_cases e : u = k ∧ j = s
      · obtain ⟨rfl, rfl⟩ := e
        simp
      · rw [if_neg e, if_neg (fun z => e (by omega))]
    rw [e1, e2, (c.2.1 u hu).2.1 j hj]
  · have e1 : (wI (wI h (24, k) s n) (25, k) s w).1 (25, u) j = if u = k ∧ j = s then w else h.1 (25, u) j := by
      rw [wI_at, wI_off _ _ _ _ (25, u) (ad_ne (show (25 : Nat) ≠ 24 by decide))]
      simp
    have e2 : stU (stU m 113 (6 * k + s) n) 114 (6 * k + s) w 114 (6 * u + j) = if u = k ∧ j = s then w else m 114 (6 * u + j) := by
      rw [stU_at]
      by_cases e : u = k ∧ j = s
      · obtain ⟨rfl, rfl⟩ := e
        simp
      · rw [if_neg e, if_neg (fun z => e (by omega)), stU_at, if_neg (fun z => absurd z.1 (by decide))]
    rw [e1, e2, (c.2.1 u hu).2.2 j hj]
set_option maxRecDepth 4000 in
theorem cx_pieces {E : En} (hok : EOK E) {h : Hp} {m : St} (hc : Cp m h) (hw : Wf m) (k0 : Int32) (s0 : Int32) (n0 : Int32) (w0 : Int32) : Call E m_X11_pieces 4 0 0 [vR TH, vI k0, vI s0, vI n0, vI w0] h (fun r h' => r = some (vI (sPieces m k0 s0 n0 w0).1) ∧ Cp (sPieces m k0 s0 n0 w0).2 h' ∧ mo h' = mo h) := by
  have hs := hc.s
  have hKb := hw.k.2
  have hTb := hw.t.2
  have hFb := hw.f.2
  have hRb := hw.r.2
  have hGb := hw.g.2
  have hAb := hw.a.2
  have hTlb := hw.tl.2
  have hNwb := hw.w.2
  refine Call.enter hok (by decide) (Nat.le_of_ble_eq_true rfl) ?_
  show G E m_X11_pieces 4 0 0 _ h 0 [some (vR TH), some (vI k0), some (vI s0), some (vI n0), some (vI w0), none] [] h 0 0
  refine g_aload_n (pc' := 1) dX11_pieces_0 rfl rfl ?_
  refine g_iload_n (pc' := 2) dX11_pieces_1 rfl rfl ?_
  rcases Classical.em (∃ j : Nat, j < nK m ∧ k0 = nI j) with w2 | w2
  ·
    have k2 := w2
    obtain ⟨k, hk, rfl⟩ := k2
    refine g_invV (pc' := 5) (cx_kindAt hok hc hw hk) dX11_pieces_2 rfl rfl ck_12 rfl ml_X11_119 im_X11_kindAt sl_X11_kindAt in_X11 co_X11_kindAt pd_X11_kindAt rfl (by omega) (by decide) ⟨by decide, by decide⟩ (Nat.le_of_ble_eq_true rfl) ?_
    rintro _ _ ⟨rfl, rfl⟩ -
    refine g_astore (pc' := 7) dX11_pieces_5 rfl (by decide) rfl ?_
    try simp only [List.set]
    refine g_aload (pc' := 9) dX11_pieces_7 rfl rfl ?_
    refine g_ifnull (pc' := 12) dX11_pieces_9 rfl ?_
    refine g_iload_n (pc' := 13) dX11_pieces_12 rfl rfl ?_
    refine g_iconstN (n := 0) (pc' := 14) dX11_pieces_13 rfl ?_
    refine g_iconstN (n := 5) (pc' := 15) dX11_pieces_14 rfl ?_
    refine g_invS (pc' := 18) (cx_within hok _ _ _) dX11_pieces_15 rfl ml_X11_99 st_X11_within in_X11 co_X11_within pd_X11_within rfl (by omega) (by decide) ⟨by decide, by decide⟩ (Nat.le_of_ble_eq_true rfl) ?_
    rintro _ _ ⟨rfl, rfl⟩ -
    refine g_ifB_eq (tgt := 43) (pc' := 21) dX11_pieces_18 rfl (by decide) (fun c18 => ?_) (fun c18 => ?_)
    ·
      refine g_iconstN (n := 0) (pc' := 44) dX11_pieces_43 rfl ?_
      refine g_zret dX11_pieces_44 rfl (by rfl) (by decide) (by decide) ?_
      have e : sPieces m (nI k) s0 n0 w0 = (0, m) := cif_f (fun z => c18 z.2.1)
      rw [e]
      exact ⟨rfl, hc, rfl⟩
    ·
      obtain ⟨s, hs6, rfl⟩ := sort_iff.mp c18
      refine g_iload_n (pc' := 22) dX11_pieces_21 rfl rfl ?_
      refine g_iconstN (n := 0) (pc' := 23) dX11_pieces_22 rfl ?_
      refine g_bipushN (n := 6) (pc' := 25) dX11_pieces_23 rfl (by decide) ?_
      refine g_invS (pc' := 28) (cx_within hok _ _ _) dX11_pieces_25 rfl ml_X11_99 st_X11_within in_X11 co_X11_within pd_X11_within rfl (by omega) (by decide) ⟨by decide, by decide⟩ (Nat.le_of_ble_eq_true rfl) ?_
      rintro _ _ ⟨rfl, rfl⟩ -
      refine g_ifB_eq (tgt := 43) (pc' := 31) dX11_pieces_28 rfl (by decide) (fun c28 => ?_) (fun c28 => ?_)
      ·
        refine g_iconstN (n := 0) (pc' := 44) dX11_pieces_43 rfl ?_
        refine g_zret dX11_pieces_44 rfl (by rfl) (by decide) (by decide) ?_
        have e : sPieces m (nI k) (nI s) n0 w0 = (0, m) := cif_f (fun z => c28 z.2.2.1)
        rw [e]
        exact ⟨rfl, hc, rfl⟩
      ·
        refine g_iload (pc' := 33) dX11_pieces_31 rfl rfl ?_
        refine g_iconstN (n := 1) (pc' := 34) dX11_pieces_33 rfl ?_
        refine g_sipushN (n := 400) (pc' := 37) dX11_pieces_34 rfl (by decide) ?_
        refine g_invS (pc' := 40) (cx_within hok _ _ _) dX11_pieces_37 rfl ml_X11_99 st_X11_within in_X11 co_X11_within pd_X11_within rfl (by omega) (by decide) ⟨by decide, by decide⟩ (Nat.le_of_ble_eq_true rfl) ?_
        rintro _ _ ⟨rfl, rfl⟩ -
        refine g_ifB_ne (tgt := 45) (pc' := 43) dX11_pieces_40 rfl (by decide) (fun c40 => ?_) (fun c40 => ?_)
        ·
          refine g_aload_n (pc' := 46) dX11_pieces_45 rfl rfl ?_
          refine g_aload (pc' := 48) dX11_pieces_46 rfl rfl ?_
          refine g_invV (pc' := 51) (cx_hasToys hok hc hw hk) dX11_pieces_48 rfl rfl ck_12 rfl ml_X11_123 im_X11_hasToys sl_X11_hasToys in_X11 co_X11_hasToys pd_X11_hasToys rfl (by omega) (by decide) ⟨by decide, by decide⟩ (Nat.le_of_ble_eq_true rfl) ?_
          rintro _ _ ⟨rfl, rfl⟩ -
          refine g_ifB_eq (tgt := 56) (pc' := 54) dX11_pieces_51 rfl (by decide) (fun c51 => ?_) (fun c51 => ?_)
          ·
            refine g_aload (pc' := 58) dX11_pieces_56 rfl rfl ?_
            refine g_getS (pc' := 61) (k := 6) (b := (24, k)) dX11_pieces_58 rfl rfl ck_3 (by decide) fl_X11_127 rfl hs rfl ?_
            refine g_iload_n (pc' := 62) dX11_pieces_61 rfl rfl ?_
            refine g_iload_n (pc' := 63) dX11_pieces_62 rfl rfl ?_
            refine g_iastN (pc' := 64) dX11_pieces_63 rfl rfl (by decide) (by omega) ?_
            refine g_aload (pc' := 66) dX11_pieces_64 rfl rfl ?_
            refine g_getS (pc' := 69) (k := 7) (b := (25, k)) dX11_pieces_66 rfl rfl ck_3 (by decide) fl_X11_130 rfl hs rfl ?_
            refine g_iload_n (pc' := 70) dX11_pieces_69 rfl rfl ?_
            refine g_iload (pc' := 72) dX11_pieces_70 rfl rfl ?_
            refine g_iastN (pc' := 73) dX11_pieces_72 rfl rfl (by decide) (by omega) ?_
            refine g_iconstN (n := 1) (pc' := 74) dX11_pieces_73 rfl ?_
            refine g_zret dX11_pieces_74 rfl (by rfl) (by decide) (by decide) ?_
            have e : sPieces m (nI k) (nI s) n0 w0 = (1, stU (stU m 113 (6 * k + s) n0) 114 (6 * k + s) w0) := by unfold sPieces; simp only [nI_clamp (show k < 2 ^ 31 by omega), nI_clamp (show s < 2 ^ 31 by omega)]; exact cif_t ⟨w2, c18, c28, c40, Classical.byContradiction c51⟩
            rw [e]
            exact ⟨rfl, ⟨hc.s, hc.e, hc.c1, hc.c2, hc.c3, hc.c4, C5_pieces hc.c5 hs6 n0 w0, hc.c6, hc.c7, hc.c8, hc.c9, hc.c10, C11.same hc.c11 rfl rfl rfl rfl rfl rfl (fun _ => rfl) rfl, hc.c12, hc.c13⟩, (mo_off rfl).trans (mo_off rfl)⟩
          ·
            refine g_iconstN (n := 0) (pc' := 55) dX11_pieces_54 rfl ?_
            refine g_zret dX11_pieces_55 rfl (by rfl) (by decide) (by decide) ?_
            have e : sPieces m (nI k) (nI s) n0 w0 = (0, m) := by unfold sPieces; simp only [nI_clamp (show k < 2 ^ 31 by omega), nI_clamp (show s < 2 ^ 31 by omega)]; exact cif_f (fun z => c51 z.2.2.2.2)
            rw [e]
            exact ⟨rfl, hc, rfl⟩
        ·
          refine g_iconstN (n := 0) (pc' := 44) dX11_pieces_43 rfl ?_
          refine g_zret dX11_pieces_44 rfl (by rfl) (by decide) (by decide) ?_
          have e : sPieces m (nI k) (nI s) n0 w0 = (0, m) := cif_f (fun z => c40 z.2.2.2.1)
          rw [e]
          exact ⟨rfl, hc, rfl⟩
  ·
    refine g_invV (pc' := 5) (cx_kindAtN hok hc hw w2) dX11_pieces_2 rfl rfl ck_12 rfl ml_X11_119 im_X11_kindAt sl_X11_kindAt in_X11 co_X11_kindAt pd_X11_kindAt rfl (by omega) (by decide) ⟨by decide, by decide⟩ (Nat.le_of_ble_eq_true rfl) ?_
    rintro _ _ ⟨rfl, rfl⟩ -
    refine g_astore (pc' := 7) dX11_pieces_5 rfl (by decide) rfl ?_
    try simp only [List.set]
    refine g_aload (pc' := 9) dX11_pieces_7 rfl rfl ?_
    refine g_ifnullN (tgt := 43) dX11_pieces_9 (by decide) ?_
    refine g_iconstN (n := 0) (pc' := 44) dX11_pieces_43 rfl ?_
    refine g_zret dX11_pieces_44 rfl (by rfl) (by decide) (by decide) ?_
    have e : sPieces m k0 s0 n0 w0 = (0, m) := cif_f (fun z => w2 z.1)
    rw [e]
    exact ⟨rfl, hc, rfl⟩
