/-- three weeks -/
def wk3 (m : St) (w : Nat) : Int32 := m 187 w + m 187 ((w + 1) % 53) + m 187 ((w + 2) % 53)
/-- the best of the first n weeks: which, how many -/
noncomputable def pkF (m : St) : Nat → Nat × Int32
  | 0 => (0, -1)
  | n + 1 => cif ((pkF m n).2 < wk3 m n) (n, wk3 m n) (pkF m n)
theorem pkF_s (m : St) (n : Nat) : pkF m (n + 1) = cif ((pkF m n).2 < wk3 m n) (n, wk3 m n) (pkF m n) := rfl
set_option maxRecDepth 4000 in
theorem lm_peak {E : En} (hok : EOK E) {h h0 : Hp} (hs : Shp h.2) (hw : Wf (mo h)) (x : Int32) {d : Nat} (hd : 0 ≤ d) {Q : Option V → Hp → Prop} (hQ : (x = 0 → Q (some (vI (nI (pkF (mo h) 53).1))) h) ∧ (¬ x = 0 → Q (some (vI (pkF (mo h) 53).2)) h)) : ∀ n w : Nat, w ≤ 53 → 53 - w = n → G E m_X12_peak d 0 0 Q h0 19 [some (vR MO), some (vI x), some (vI (nI (pkF (mo h) w).1)), some (vI ((pkF (mo h) w).2)), some (vI (nI w)), none] [] (h) 0 0 := by
  have hNw : h.1 MO 2 = nI (nW (mo h)) := hw.w.1
  have hNwb := hw.w.2
  have hC : h.1 MO 30 = nI (nC (mo h)) := hw.c.1
  have hCb := hw.c.2
  have hK : h.1 MO 3 = nI (nK (mo h)) := hw.k.1
  have hKb := hw.k.2
  have hT : h.1 MO 4 = nI (nT (mo h)) := hw.t.1
  have hTb := hw.t.2
  have hF : h.1 MO 5 = nI (nF (mo h)) := hw.f.1
  have hFb := hw.f.2
  have hRc : h.1 MO 59 = nI (nR (mo h)) := hw.r.1
  have hRb := hw.r.2
  have hG : h.1 MO 60 = nI (nGf (mo h)) := hw.g.1
  have hGb := hw.g.2
  have hA : h.1 MO 70 = nI (nA (mo h)) := hw.a.1
  have hAb := hw.a.2
  have hTl : h.1 MO 1 = nI (nTl (mo h)) := hw.tl.1
  have hTlb := hw.tl.2
  intro n
  induction n with
  | zero =>
    intro w h1 h2
    refine g_iload (pc' := 21) dX12_peak_19 rfl rfl ?_
    refine g_bipushN (n := 53) (pc' := 23) dX12_peak_21 rfl (by decide) ?_
    refine g_icmp_geN (tgt := 82) (pc' := 26) dX12_peak_23 rfl (by decide) (by omega) (by omega) (fun c23 => ?_) (fun c23 => ?_)
    ·
      refine g_iload_n (pc' := 83) dX12_peak_82 rfl rfl ?_
      refine g_if_ne (tgt := 90) (pc' := 86) dX12_peak_83 rfl (by decide) (fun c83 => ?_) (fun c83 => ?_)
      ·
        refine g_iload_n (pc' := 91) dX12_peak_90 rfl rfl ?_
        refine g_iret dX12_peak_91 rfl (by decide) (by decide) ?_
        have e : w = 53 := by omega
        subst e
        exact hQ.2 c83
      ·
        refine g_iload_n (pc' := 87) dX12_peak_86 rfl rfl ?_
        refine g_goto (tgt := 91) dX12_peak_87 (by decide) ?_
        refine g_iret dX12_peak_91 rfl (by decide) (by decide) ?_
        have e : w = 53 := by omega
        subst e
        exact hQ.1 c83
    · exact absurd c23 (by omega)
  | succ n ih =>
    intro w h1 h2
    refine g_iload (pc' := 21) dX12_peak_19 rfl rfl ?_
    refine g_bipushN (n := 53) (pc' := 23) dX12_peak_21 rfl (by decide) ?_
    refine g_icmp_geN (tgt := 82) (pc' := 26) dX12_peak_23 rfl (by decide) (by omega) (by omega) (fun c23 => ?_) (fun c23 => ?_)
    · exact absurd c23 (by omega)
    ·
      refine g_aload_n (pc' := 27) dX12_peak_26 rfl rfl ?_
      refine g_getS (pc' := 30) (k := 87) (b := (187, 0)) dX12_peak_27 rfl rfl ck_13 (by decide) fl_X12_186 rfl hs rfl ?_
      refine g_iload (pc' := 32) dX12_peak_30 rfl rfl ?_
      refine g_ialdN (pc' := 33) (v := _) dX12_peak_32 rfl rfl (by decide) (by omega) (rfl) ?_
      refine g_aload_n (pc' := 34) dX12_peak_33 rfl rfl ?_
      refine g_getS (pc' := 37) (k := 87) (b := (187, 0)) dX12_peak_34 rfl rfl ck_13 (by decide) fl_X12_186 rfl hs rfl ?_
      refine g_iload (pc' := 39) dX12_peak_37 rfl rfl ?_
      refine g_iconstN (n := 1) (pc' := 40) dX12_peak_39 rfl ?_
      refine g_iaddN (pc' := 41) dX12_peak_40 rfl ?_
      refine g_bipushN (n := 53) (pc' := 43) dX12_peak_41 rfl (by decide) ?_
      refine g_iremN (pc' := 44) dX12_peak_43 rfl (by omega) (by omega) (by omega) ?_
      refine g_ialdN (pc' := 45) (v := _) dX12_peak_44 rfl rfl (by decide) (by omega) (rfl) ?_
      refine g_iadd (pc' := 46) dX12_peak_45 rfl ?_
      refine g_aload_n (pc' := 47) dX12_peak_46 rfl rfl ?_
      refine g_getS (pc' := 50) (k := 87) (b := (187, 0)) dX12_peak_47 rfl rfl ck_13 (by decide) fl_X12_186 rfl hs rfl ?_
      refine g_iload (pc' := 52) dX12_peak_50 rfl rfl ?_
      refine g_iconstN (n := 2) (pc' := 53) dX12_peak_52 rfl ?_
      refine g_iaddN (pc' := 54) dX12_peak_53 rfl ?_
      refine g_bipushN (n := 53) (pc' := 56) dX12_peak_54 rfl (by decide) ?_
      refine g_iremN (pc' := 57) dX12_peak_56 rfl (by omega) (by omega) (by omega) ?_
      refine g_ialdN (pc' := 58) (v := _) dX12_peak_57 rfl rfl (by decide) (by omega) (rfl) ?_
      refine g_iadd (pc' := 59) dX12_peak_58 rfl ?_
      refine g_istore (pc' := 61) dX12_peak_59 rfl (by decide) rfl ?_
      try simp only [List.set]
      refine g_iload (pc' := 63) dX12_peak_61 rfl rfl ?_
      refine g_iload_n (pc' := 64) dX12_peak_63 rfl rfl ?_
      refine g_icmp_gt (tgt := 70) (pc' := 67) dX12_peak_64 rfl (by decide) (fun c64 => ?_) (fun c64 => ?_)
      ·
        refine g_iload (pc' := 72) dX12_peak_70 rfl rfl ?_
        refine g_istore_n (pc' := 73) dX12_peak_72 rfl (by decide) rfl ?_
        try simp only [List.set]
        refine g_iload (pc' := 75) dX12_peak_73 rfl rfl ?_
        refine g_istore_n (pc' := 76) dX12_peak_75 rfl (by decide) rfl ?_
        try simp only [List.set]
        refine g_iincN (k := 1) (pc' := 79) dX12_peak_76 rfl rfl (by decide) rfl ?_
        try simp only [List.set]
        refine g_goto (tgt := 19) dX12_peak_79 (by decide) ?_
        refine G.drop 5 ?_
        simp only [List.set]
        have q := ih (w + 1) (by omega) (by omega)
        rw [pkF_s, cif_t (show (pkF (mo h) w).2 < wk3 (mo h) w from c64)] at q
        exact q
      ·
        refine g_goto (tgt := 76) dX12_peak_67 (by decide) ?_
        refine g_iincN (k := 1) (pc' := 79) dX12_peak_76 rfl rfl (by decide) rfl ?_
        try simp only [List.set]
        refine g_goto (tgt := 19) dX12_peak_79 (by decide) ?_
        refine G.drop 5 ?_
        simp only [List.set]
        have q := ih (w + 1) (by omega) (by omega)
        rw [pkF_s, cif_f (show ¬ (pkF (mo h) w).2 < wk3 (mo h) w from c64)] at q
        exact q
noncomputable def sPeak (m : St) (x : Int32) : Int32 × St := cif ((0 ≤ x ∧ x ≤ 1)) (cif (x = 0) (nI (pkF m 53).1) (pkF m 53).2, m) (-1, m)
set_option maxRecDepth 4000 in
theorem cm_peak {E : En} (hok : EOK E) {h : Hp} (hs : Shp h.2) (hw : Wf (mo h)) (x : Int32) : Call E m_X12_peak 1 0 0 [vR MO, vI x] h (fun r h' => r = some (vI (sPeak (mo h) x).1) ∧ mo h' = (sPeak (mo h) x).2 ∧ Mk h h') := by
  have hNw : h.1 MO 2 = nI (nW (mo h)) := hw.w.1
  have hNwb := hw.w.2
  have hC : h.1 MO 30 = nI (nC (mo h)) := hw.c.1
  have hCb := hw.c.2
  have hK : h.1 MO 3 = nI (nK (mo h)) := hw.k.1
  have hKb := hw.k.2
  have hT : h.1 MO 4 = nI (nT (mo h)) := hw.t.1
  have hTb := hw.t.2
  have hF : h.1 MO 5 = nI (nF (mo h)) := hw.f.1
  have hFb := hw.f.2
  have hRc : h.1 MO 59 = nI (nR (mo h)) := hw.r.1
  have hRb := hw.r.2
  have hG : h.1 MO 60 = nI (nGf (mo h)) := hw.g.1
  have hGb := hw.g.2
  have hA : h.1 MO 70 = nI (nA (mo h)) := hw.a.1
  have hAb := hw.a.2
  have hTl : h.1 MO 1 = nI (nTl (mo h)) := hw.tl.1
  have hTlb := hw.tl.2
  refine Call.enter hok (by decide) (Nat.le_of_ble_eq_true rfl) ?_
  show G E m_X12_peak 1 0 0 _ h 0 [some (vR MO), some (vI x), none, none, none, none] [] h 0 0
  refine g_iload_n (pc' := 1) dX12_peak_0 rfl rfl ?_
  refine g_i2l (pc' := 2) dX12_peak_1 rfl ?_
  refine g_lconst (v := 0) (pc' := 3) dX12_peak_2 rfl rfl ?_
  refine g_lconst (v := 1) (pc' := 4) dX12_peak_3 rfl rfl ?_
  refine g_invS (pc' := 7) (c_liesI hok _ (0) (1) rfl (by decide) (by decide)) dX12_peak_4 rfl ml_X12_203 st_X12_lies in_X12 co_X12_lies pd_X12_lies rfl (by omega) (by decide) ⟨by decide, by decide⟩ (Nat.le_of_ble_eq_true rfl) ?_
  rintro _ _ ⟨rfl, rfl⟩ -
  refine g_ifB_ne (tgt := 12) (pc' := 10) dX12_peak_7 rfl (by decide) (fun c7 => ?_) (fun c7 => ?_)
  ·
    refine g_iconstN (n := 0) (pc' := 13) dX12_peak_12 rfl ?_
    refine g_istore_n (pc' := 14) dX12_peak_13 rfl (by decide) rfl ?_
    try simp only [List.set]
    refine g_iconst (v := -1) (pc' := 15) dX12_peak_14 rfl (by decide) ?_
    refine g_istore_n (pc' := 16) dX12_peak_15 rfl (by decide) rfl ?_
    try simp only [List.set]
    refine g_iconstN (n := 0) (pc' := 17) dX12_peak_16 rfl ?_
    refine g_istore (pc' := 19) dX12_peak_17 rfl (by decide) rfl ?_
    try simp only [List.set]
    have e : sPeak (mo h) x = (cif (x = 0) (nI (pkF (mo h) 53).1) (pkF (mo h) 53).2, mo h) := cif_t c7
    refine lm_peak hok hs hw x (Nat.zero_le _) ⟨fun q => ?_, fun q => ?_⟩ _ 0 (Nat.zero_le _) rfl
    · rw [e, cif_t q]
      exact ⟨rfl, rfl, Mk.rf h⟩
    · rw [e, cif_f q]
      exact ⟨rfl, rfl, Mk.rf h⟩
  ·
    refine g_iconst (v := -1) (pc' := 11) dX12_peak_10 rfl (by decide) ?_
    refine g_iret dX12_peak_11 rfl (by decide) (by decide) ?_
    have e : sPeak (mo h) x = (-1, mo h) := by exact cif_f (by rintro z; contradiction)
    rw [e]
    exact ⟨rfl, rfl, Mk.rf h⟩
/-- a number of the tape: four bytes -/
def nat4 (m : St) (k : Nat) : Nat → Int32
  | 0 => 0
  | n + 1 => (nat4 m k n <<< (nI 8 &&& 31)) ||| (m 100 (4 * k + n) &&& nI 255)
theorem nat4_s (m : St) (k n : Nat) : nat4 m k (n + 1) = (nat4 m k n <<< (nI 8 &&& 31)) ||| (m 100 (4 * k + n) &&& nI 255) := rfl
set_option maxRecDepth 4000 in
theorem lm_numberAt {E : En} (hok : EOK E) {h h0 : Hp} (hs : Shp h.2) {k : Nat} (hk : k < 55) {d : Nat} (hd : 0 ≤ d) {Q : Option V → Hp → Prop} (hQ : Q (some (vI (nat4 (mo h) k 4))) h) : ∀ n i : Nat, i ≤ 4 → 4 - i = n → G E m_X12_numberAt d 0 0 Q h0 4 [some (vR MO), some (vI (nI k)), some (vI (nat4 (mo h) k i)), some (vI (nI i))] [] (h) 0 0 := by
  intro n
  induction n with
  | zero =>
    intro i h1 h2
    refine g_iload_n (pc' := 5) dX12_numberAt_4 rfl rfl ?_
    refine g_iconstN (n := 4) (pc' := 6) dX12_numberAt_5 rfl ?_
    refine g_icmp_geN (tgt := 35) (pc' := 9) dX12_numberAt_6 rfl (by decide) (by omega) (by omega) (fun c6 => ?_) (fun c6 => ?_)
    ·
      refine g_iload_n (pc' := 36) dX12_numberAt_35 rfl rfl ?_
      refine g_iret dX12_numberAt_36 rfl (by decide) (by decide) ?_
      have e : i = 4 := by omega
      subst e
      exact hQ
    · exact absurd c6 (by omega)
  | succ n ih =>
    intro i h1 h2
    refine g_iload_n (pc' := 5) dX12_numberAt_4 rfl rfl ?_
    refine g_iconstN (n := 4) (pc' := 6) dX12_numberAt_5 rfl ?_
    refine g_icmp_geN (tgt := 35) (pc' := 9) dX12_numberAt_6 rfl (by decide) (by omega) (by omega) (fun c6 => ?_) (fun c6 => ?_)
    · exact absurd c6 (by omega)
    ·
      refine g_iload_n (pc' := 10) dX12_numberAt_9 rfl rfl ?_
      refine g_bipushN (n := 8) (pc' := 12) dX12_numberAt_10 rfl (by decide) ?_
      refine g_ishl (pc' := 13) dX12_numberAt_12 rfl ?_
      refine g_aload_n (pc' := 14) dX12_numberAt_13 rfl rfl ?_
      refine g_getS (pc' := 17) (k := 0) (b := (100, 0)) dX12_numberAt_14 rfl rfl ck_13 (by decide) fl_X12_7 rfl hs rfl ?_
      refine g_iconstN (n := 4) (pc' := 18) dX12_numberAt_17 rfl ?_
      refine g_iload_n (pc' := 19) dX12_numberAt_18 rfl rfl ?_
      refine g_imulN (pc' := 20) dX12_numberAt_19 rfl ?_
      refine g_iload_n (pc' := 21) dX12_numberAt_20 rfl rfl ?_
      refine g_iaddN (pc' := 22) dX12_numberAt_21 rfl ?_
      refine g_baldN (pc' := 23) (v := _) dX12_numberAt_22 rfl rfl (by decide) (by omega) (rfl) ?_
      refine g_sipushN (n := 255) (pc' := 26) dX12_numberAt_23 rfl (by decide) ?_
      refine g_iand (pc' := 27) dX12_numberAt_26 rfl ?_
      refine g_ior (pc' := 28) dX12_numberAt_27 rfl ?_
      refine g_istore_n (pc' := 29) dX12_numberAt_28 rfl (by decide) rfl ?_
      try simp only [List.set]
      refine g_iincN (k := 1) (pc' := 32) dX12_numberAt_29 rfl rfl (by decide) rfl ?_
      try simp only [List.set]
      refine g_goto (tgt := 4) dX12_numberAt_32 (by decide) ?_
      exact ih (i + 1) (by omega) (by omega)
set_option maxRecDepth 4000 in
theorem cm_numberAt {E : En} (hok : EOK E) {h : Hp} (hs : Shp h.2) {k : Nat} (hk : k < 55) : Fn E m_X12_numberAt 0 [vR MO, vI (nI k)] h (vI (nat4 (mo h) k 4)) := by
  refine Call.enter hok (by decide) (Nat.le_of_ble_eq_true rfl) ?_
  show G E m_X12_numberAt 0 0 0 _ h 0 [some (vR MO), some (vI (nI k)), none, none] [] h 0 0
  refine g_iconst (v := 0) (pc' := 1) dX12_numberAt_0 rfl (by decide) ?_
  refine g_istore_n (pc' := 2) dX12_numberAt_1 rfl (by decide) rfl ?_
  try simp only [List.set]
  refine g_iconstN (n := 0) (pc' := 3) dX12_numberAt_2 rfl ?_
  refine g_istore_n (pc' := 4) dX12_numberAt_3 rfl (by decide) rfl ?_
  try simp only [List.set]
  exact lm_numberAt hok hs hk (Nat.le_refl _) ⟨rfl, rfl⟩ _ 0 (Nat.zero_le _) rfl
noncomputable def chkF (m : St) (t n : Nat) : Nat → Nat → Int32
  | 0, x => cif (x = n) (-1) (nI (2 * x))
  | k + 1, x => cif (m 113 (6 * kd m t + (5 - k)) = 0) (chkF m t n k x) (cif (x = n) (nI (2 * n)) (cif (nat4 m (2 * x) 4 = nI (5 - k)) (cif (nat4 m (2 * x + 1) 4 = m 125 (6 * t + (5 - k))) (chkF m t n k (x + 1)) (nI (2 * x + 1))) (nI (2 * x))))
theorem chkF_s (m : St) (t n k x : Nat) : chkF m t n (k + 1) x = cif (m 113 (6 * kd m t + (5 - k)) = 0) (chkF m t n k x) (cif (x = n) (nI (2 * n)) (cif (nat4 m (2 * x) 4 = nI (5 - k)) (cif (nat4 m (2 * x + 1) 4 = m 125 (6 * t + (5 - k))) (chkF m t n k (x + 1)) (nI (2 * x + 1))) (nI (2 * x)))) := rfl
set_option maxRecDepth 4000 in
theorem lm_check {E : En} (hok : EOK E) {h h0 : Hp} (hs : Shp h.2) (hw : Wf (mo h)) {t N : Nat} (ht : t < nT (mo h)) (hN : N ≤ 27) {d : Nat} (hd : 1 ≤ d) {Q : Option V → Hp → Prop} (hQ : True) : ∀ n s x : Nat, s ≤ 6 → 6 - s = n → (x ≤ s ∧ x ≤ N ∧ Q (some (vI (chkF (mo h) t N (6 - s) x))) h) → G E m_X12_check d 0 0 Q h0 36 [some (vR MO), some (vI (nI t)), some (vI (nI N)), some (vI (nI x)), some (vI (nI s))] [] (h) 0 0 := by
  have hNw : h.1 MO 2 = nI (nW (mo h)) := hw.w.1
  have hNwb := hw.w.2
  have hC : h.1 MO 30 = nI (nC (mo h)) := hw.c.1
  have hCb := hw.c.2
  have hK : h.1 MO 3 = nI (nK (mo h)) := hw.k.1
  have hKb := hw.k.2
  have hT : h.1 MO 4 = nI (nT (mo h)) := hw.t.1
  have hTb := hw.t.2
  have hF : h.1 MO 5 = nI (nF (mo h)) := hw.f.1
  have hFb := hw.f.2
  have hRc : h.1 MO 59 = nI (nR (mo h)) := hw.r.1
  have hRb := hw.r.2
  have hG : h.1 MO 60 = nI (nGf (mo h)) := hw.g.1
  have hGb := hw.g.2
  have hA : h.1 MO 70 = nI (nA (mo h)) := hw.a.1
  have hAb := hw.a.2
  have hTl : h.1 MO 1 = nI (nTl (mo h)) := hw.tl.1
  have hTlb := hw.tl.2
  have hkd := (hw.kd ht).2
  intro n
  induction n with
  | zero =>
    intro s x h1 h2 hi
    have hi1 := hi.1
    have hi2 := hi.2.1
    refine g_iload (pc' := 38) dX12_check_36 rfl rfl ?_
    refine g_bipushN (n := 6) (pc' := 40) dX12_check_38 rfl (by decide) ?_
    refine g_icmp_geN (tgt := 130) (pc' := 43) dX12_check_40 rfl (by decide) (by omega) (by omega) (fun c40 => ?_) (fun c40 => ?_)
    ·
      refine g_iload_n (pc' := 131) dX12_check_130 rfl rfl ?_
      refine g_iload_n (pc' := 132) dX12_check_131 rfl rfl ?_
      refine g_icmp_neN (tgt := 139) (pc' := 135) dX12_check_132 rfl (by decide) (by omega) (by omega) (fun c132 => ?_) (fun c132 => ?_)
      ·
        refine g_iconstN (n := 2) (pc' := 140) dX12_check_139 rfl ?_
        refine g_iload_n (pc' := 141) dX12_check_140 rfl rfl ?_
        refine g_imulN (pc' := 142) dX12_check_141 rfl ?_
        refine g_iret dX12_check_142 rfl (by decide) (by decide) ?_
        have e : s = 6 := by omega
        subst e
        have q := hi.2.2
        rw [show 6 - 6 = 0 from rfl] at q
        unfold chkF at q
        rw [cif_f c132] at q
        exact q
      ·
        refine g_iconst (v := -1) (pc' := 136) dX12_check_135 rfl (by decide) ?_
        refine g_goto (tgt := 142) dX12_check_136 (by decide) ?_
        refine g_iret dX12_check_142 rfl (by decide) (by decide) ?_
        have e : s = 6 := by omega
        subst e
        have q := hi.2.2
        rw [show 6 - 6 = 0 from rfl] at q
        unfold chkF at q
        rw [cif_t c132] at q
        exact q
    · exact absurd c40 (by omega)
  | succ n ih =>
    intro s x h1 h2 hi
    have hi1 := hi.1
    have hi2 := hi.2.1
    refine g_iload (pc' := 38) dX12_check_36 rfl rfl ?_
    refine g_bipushN (n := 6) (pc' := 40) dX12_check_38 rfl (by decide) ?_
    refine g_icmp_geN (tgt := 130) (pc' := 43) dX12_check_40 rfl (by decide) (by omega) (by omega) (fun c40 => ?_) (fun c40 => ?_)
    · exact absurd c40 (by omega)
    ·
      refine g_aload_n (pc' := 44) dX12_check_43 rfl rfl ?_
      refine g_getS (pc' := 47) (k := 13) (b := (113, 0)) dX12_check_44 rfl rfl ck_13 (by decide) fl_X12_29 rfl hs rfl ?_
      refine g_bipushN (n := 6) (pc' := 49) dX12_check_47 rfl (by decide) ?_
      refine g_aload_n (pc' := 50) dX12_check_49 rfl rfl ?_
      refine g_getS (pc' := 53) (k := 15) (b := (115, 0)) dX12_check_50 rfl rfl ck_13 (by decide) fl_X12_35 rfl hs rfl ?_
      refine g_iload_n (pc' := 54) dX12_check_53 rfl rfl ?_
      refine g_ialdN (pc' := 55) (v := nI (kd (mo h) t)) dX12_check_54 rfl rfl (by decide) (by omega) ((hw.kd ht).1) ?_
      refine g_imulN (pc' := 56) dX12_check_55 rfl ?_
      refine g_iload (pc' := 58) dX12_check_56 rfl rfl ?_
      refine g_iaddN (pc' := 59) dX12_check_58 rfl ?_
      refine g_ialdN (pc' := 60) (v := _) dX12_check_59 rfl rfl (by decide) (by omega) (rfl) ?_
      refine g_if_ne (tgt := 66) (pc' := 63) dX12_check_60 rfl (by decide) (fun c60 => ?_) (fun c60 => ?_)
      ·
        refine g_iload_n (pc' := 67) dX12_check_66 rfl rfl ?_
        refine g_iload_n (pc' := 68) dX12_check_67 rfl rfl ?_
        refine g_icmp_neN (tgt := 75) (pc' := 71) dX12_check_68 rfl (by decide) (by omega) (by omega) (fun c68 => ?_) (fun c68 => ?_)
        ·
          refine g_aload_n (pc' := 76) dX12_check_75 rfl rfl ?_
          refine g_iconstN (n := 2) (pc' := 77) dX12_check_76 rfl ?_
          refine g_iload_n (pc' := 78) dX12_check_77 rfl rfl ?_
          refine g_imulN (pc' := 79) dX12_check_78 rfl ?_
          refine g_invV (pc' := 82) (cm_numberAt hok hs (k := (2 * x)) (by omega)) dX12_check_79 rfl rfl ck_13 rfl ml_X12_561 im_X12_numberAt sl_X12_numberAt in_X12 co_X12_numberAt pd_X12_numberAt rfl (by omega) (by decide) ⟨by decide, by decide⟩ (Nat.le_of_ble_eq_true rfl) ?_
          rintro _ _ ⟨rfl, rfl⟩ -
          refine g_iload (pc' := 84) dX12_check_82 rfl rfl ?_
          refine g_icmp_eq (tgt := 91) (pc' := 87) dX12_check_84 rfl (by decide) (fun c84 => ?_) (fun c84 => ?_)
          ·
            refine g_aload_n (pc' := 92) dX12_check_91 rfl rfl ?_
            refine g_iconstN (n := 2) (pc' := 93) dX12_check_92 rfl ?_
            refine g_iload_n (pc' := 94) dX12_check_93 rfl rfl ?_
            refine g_imulN (pc' := 95) dX12_check_94 rfl ?_
            refine g_iconstN (n := 1) (pc' := 96) dX12_check_95 rfl ?_
            refine g_iaddN (pc' := 97) dX12_check_96 rfl ?_
            refine g_invV (pc' := 100) (cm_numberAt hok hs (k := ((2 * x) + 1)) (by omega)) dX12_check_97 rfl rfl ck_13 rfl ml_X12_561 im_X12_numberAt sl_X12_numberAt in_X12 co_X12_numberAt pd_X12_numberAt rfl (by omega) (by decide) ⟨by decide, by decide⟩ (Nat.le_of_ble_eq_true rfl) ?_
            rintro _ _ ⟨rfl, rfl⟩ -
            refine g_aload_n (pc' := 101) dX12_check_100 rfl rfl ?_
            refine g_getS (pc' := 104) (k := 25) (b := (125, 0)) dX12_check_101 rfl rfl ck_13 (by decide) fl_X12_66 rfl hs rfl ?_
            refine g_bipushN (n := 6) (pc' := 106) dX12_check_104 rfl (by decide) ?_
            refine g_iload_n (pc' := 107) dX12_check_106 rfl rfl ?_
            refine g_imulN (pc' := 108) dX12_check_107 rfl ?_
            refine g_iload (pc' := 110) dX12_check_108 rfl rfl ?_
            refine g_iaddN (pc' := 111) dX12_check_110 rfl ?_
            refine g_ialdN (pc' := 112) (v := _) dX12_check_111 rfl rfl (by decide) (by omega) (rfl) ?_
            refine g_icmp_eq (tgt := 121) (pc' := 115) dX12_check_112 rfl (by decide) (fun c112 => ?_) (fun c112 => ?_)
            ·
              refine g_iincN (k := 1) (pc' := 124) dX12_check_121 rfl rfl (by decide) rfl ?_
              try simp only [List.set]
              refine g_iincN (k := 1) (pc' := 127) dX12_check_124 rfl rfl (by decide) rfl ?_
              try simp only [List.set]
              refine g_goto (tgt := 36) dX12_check_127 (by decide) ?_
              have q := hi.2.2
              rw [h2, chkF_s, show 5 - n = s by omega, cif_f (show ¬ mo h 113 (6 * kd (mo h) t + s) = 0 from c60), cif_f c68, cif_t (show nat4 (mo h) (2 * x) 4 = nI s from c84), cif_t (show nat4 (mo h) (2 * x + 1) 4 = mo h 125 (6 * t + s) from c112)] at q
              rw [show n = 6 - (s + 1) by omega] at q
              exact ih (s + 1) (x + 1) (by omega) (by omega) ⟨by omega, by omega, q⟩
            ·
              refine g_iconstN (n := 2) (pc' := 116) dX12_check_115 rfl ?_
              refine g_iload_n (pc' := 117) dX12_check_116 rfl rfl ?_
              refine g_imulN (pc' := 118) dX12_check_117 rfl ?_
              refine g_iconstN (n := 1) (pc' := 119) dX12_check_118 rfl ?_
              refine g_iaddN (pc' := 120) dX12_check_119 rfl ?_
              refine g_iret dX12_check_120 rfl (by decide) (by decide) ?_
              have q := hi.2.2
              rw [h2, chkF_s, show 5 - n = s by omega, cif_f (show ¬ mo h 113 (6 * kd (mo h) t + s) = 0 from c60)] at q
              rw [cif_f c68, cif_t (show nat4 (mo h) (2 * x) 4 = nI s from c84), cif_f (show ¬ nat4 (mo h) (2 * x + 1) 4 = mo h 125 (6 * t + s) from c112)] at q
              exact q
          ·
            refine g_iconstN (n := 2) (pc' := 88) dX12_check_87 rfl ?_
            refine g_iload_n (pc' := 89) dX12_check_88 rfl rfl ?_
            refine g_imulN (pc' := 90) dX12_check_89 rfl ?_
            refine g_iret dX12_check_90 rfl (by decide) (by decide) ?_
            have q := hi.2.2
            rw [h2, chkF_s, show 5 - n = s by omega, cif_f (show ¬ mo h 113 (6 * kd (mo h) t + s) = 0 from c60)] at q
            rw [cif_f c68, cif_f (show ¬ nat4 (mo h) (2 * x) 4 = nI s from c84)] at q
            exact q
        ·
          refine g_iconstN (n := 2) (pc' := 72) dX12_check_71 rfl ?_
          refine g_iload_n (pc' := 73) dX12_check_72 rfl rfl ?_
          refine g_imulN (pc' := 74) dX12_check_73 rfl ?_
          refine g_iret dX12_check_74 rfl (by decide) (by decide) ?_
          have q := hi.2.2
          rw [h2, chkF_s, show 5 - n = s by omega, cif_f (show ¬ mo h 113 (6 * kd (mo h) t + s) = 0 from c60)] at q
          rw [cif_t c68] at q
          exact q
      ·
        refine g_goto (tgt := 124) dX12_check_63 (by decide) ?_
        refine g_iincN (k := 1) (pc' := 127) dX12_check_124 rfl rfl (by decide) rfl ?_
        try simp only [List.set]
        refine g_goto (tgt := 36) dX12_check_127 (by decide) ?_
        have q := hi.2.2
        rw [h2, chkF_s, show 5 - n = s by omega, cif_t (show mo h 113 (6 * kd (mo h) t + s) = 0 from c60)] at q
        rw [show n = 6 - (s + 1) by omega] at q
        exact ih (s + 1) x (by omega) (by omega) ⟨by omega, by omega, q⟩
theorem Wf_tl {m : St} (w : Wf m) {n : Nat} (hn : n ≤ 220) : Wf (stU m 1 1 (nI n)) := by
  have e2 : stU m 1 1 (nI n) 115 = m 115 := rfl
  have e1 : ∀ j, j ≠ 1 → stU m 1 1 (nI n) 1 j = m 1 j := fun j hj => by rw [stU_at, if_neg (fun z => hj z.2)]
  have e0 : stU m 1 1 (nI n) 1 1 = nI n := by rw [stU_at, if_pos ⟨rfl, rfl⟩]
  unfold Wf nTl nK nT nF nR nGf nA nW nC kd at *
  rw [e2, e0, e1 2 (by decide), e1 30 (by decide), e1 3 (by decide), e1 4 (by decide), e1 5 (by decide), e1 59 (by decide), e1 60 (by decide), e1 70 (by decide), nI_clamp (by omega)]
  exact ⟨w.1, w.2.1, ⟨rfl, hn⟩, w.2.2.2⟩
theorem nT_tl (m : St) (n : Nat) : nT (stU m 1 1 (nI n)) = nT m := rfl
noncomputable def sCheck (m : St) (t0 : Int32) (n0 : Int32) : Int32 × St := cif ((∃ j : Nat, j < nT m ∧ t0 = nI j) ∧ (∃ j : Nat, j < nTl m / 8 + 1 ∧ n0 = nI j)) (chkF (stU m 1 1 (nI 0)) t0.toNatClampNeg n0.toNatClampNeg 6 0, stU m 1 1 (nI 0)) (-2, m)
set_option maxRecDepth 4000 in
theorem cm_check {E : En} (hok : EOK E) {h : Hp} (hs : Shp h.2) (hw : Wf (mo h)) (t0 : Int32) (n0 : Int32) : Call E m_X12_check 2 0 0 [vR MO, vI t0, vI n0] h (fun r h' => r = some (vI (sCheck (mo h) t0 n0).1) ∧ mo h' = (sCheck (mo h) t0 n0).2 ∧ Mk h h') := by
  have hNw : h.1 MO 2 = nI (nW (mo h)) := hw.w.1
  have hNwb := hw.w.2
  have hC : h.1 MO 30 = nI (nC (mo h)) := hw.c.1
  have hCb := hw.c.2
  have hK : h.1 MO 3 = nI (nK (mo h)) := hw.k.1
  have hKb := hw.k.2
  have hT : h.1 MO 4 = nI (nT (mo h)) := hw.t.1
  have hTb := hw.t.2
  have hF : h.1 MO 5 = nI (nF (mo h)) := hw.f.1
  have hFb := hw.f.2
  have hRc : h.1 MO 59 = nI (nR (mo h)) := hw.r.1
  have hRb := hw.r.2
  have hG : h.1 MO 60 = nI (nGf (mo h)) := hw.g.1
  have hGb := hw.g.2
  have hA : h.1 MO 70 = nI (nA (mo h)) := hw.a.1
  have hAb := hw.a.2
  have hTl : h.1 MO 1 = nI (nTl (mo h)) := hw.tl.1
  have hTlb := hw.tl.2
  refine Call.enter hok (by decide) (Nat.le_of_ble_eq_true rfl) ?_
  show G E m_X12_check 2 0 0 _ h 0 [some (vR MO), some (vI t0), some (vI n0), none, none] [] h 0 0
  refine g_aload_n (pc' := 1) dX12_check_0 rfl rfl ?_
  refine g_iload_n (pc' := 2) dX12_check_1 rfl rfl ?_
  refine g_invV (pc' := 5) (cm_isToy hok hw _) dX12_check_2 rfl rfl ck_13 rfl ml_X12_443 im_X12_isToy sl_X12_isToy in_X12 co_X12_isToy pd_X12_isToy rfl (by omega) (by decide) ⟨by decide, by decide⟩ (Nat.le_of_ble_eq_true rfl) ?_
  rintro _ _ ⟨rfl, rfl⟩ -
  refine g_ifB_eq (tgt := 23) (pc' := 8) dX12_check_5 rfl (by decide) (fun c5 => ?_) (fun c5 => ?_)
  ·
    refine g_bipush (v := -2) (pc' := 25) dX12_check_23 rfl (by decide) ?_
    refine g_iret dX12_check_25 rfl (by decide) (by decide) ?_
    have e : sCheck (mo h) t0 n0 = (-2, mo h) := cif_f (fun z => c5 z.1)
    rw [e]
    exact ⟨rfl, rfl, Mk.rf h⟩
  ·
    have k5 := c5
    obtain ⟨t, ht, rfl⟩ := k5
    refine g_iload_n (pc' := 9) dX12_check_8 rfl rfl ?_
    refine g_if_lt (tgt := 23) (pc' := 12) dX12_check_9 rfl (by decide) (fun c9 => ?_) (fun c9 => ?_)
    ·
      refine g_bipush (v := -2) (pc' := 25) dX12_check_23 rfl (by decide) ?_
      refine g_iret dX12_check_25 rfl (by decide) (by decide) ?_
      have e : sCheck (mo h) (nI t) n0 = (-2, mo h) := cif_f (fun z => by obtain ⟨j, hj, rfl⟩ := z.2; exact absurd c9 (nI_pos (by omega)))
      rw [e]
      exact ⟨rfl, rfl, Mk.rf h⟩
    ·
      obtain ⟨N, hNn, rfl⟩ := nI_of (x := n0) c9
      refine g_iload_n (pc' := 13) dX12_check_12 rfl rfl ?_
      refine g_aload_n (pc' := 14) dX12_check_13 rfl rfl ?_
      refine g_getIv (v := nI (nTl (mo h))) (pc' := 17) (k := 1) dX12_check_14 rfl rfl ck_13 (by decide) fl_X12_255 rfl (hTl) ?_
      refine g_bipushN (n := 8) (pc' := 19) dX12_check_17 rfl (by decide) ?_
      refine g_idivN (pc' := 20) dX12_check_19 rfl (by omega) (by omega) (by omega) ?_
      refine g_icmp_leN (tgt := 26) (pc' := 23) dX12_check_20 rfl (by decide) (by omega) (by omega) (fun c20 => ?_) (fun c20 => ?_)
      ·
        refine g_aload_n (pc' := 27) dX12_check_26 rfl rfl ?_
        refine g_iconstN (n := 0) (pc' := 28) dX12_check_27 rfl ?_
        refine g_putI (pc' := 31) (k := 1) dX12_check_28 rfl rfl ck_13 (by decide) fl_X12_255 rfl rfl rfl rfl ?_
        refine g_iconstN (n := 0) (pc' := 32) dX12_check_31 rfl ?_
        refine g_istore_n (pc' := 33) dX12_check_32 rfl (by decide) rfl ?_
        try simp only [List.set]
        refine g_iconstN (n := 0) (pc' := 34) dX12_check_33 rfl ?_
        refine g_istore (pc' := 36) dX12_check_34 rfl (by decide) rfl ?_
        try simp only [List.set]
        have hm : mo (wI h MO 1 (nI 0)) = stU (mo h) 1 1 (nI 0) := mo_wF rfl
        have hw1 : Wf (mo (wI h MO 1 (nI 0))) := by rw [hm]; exact Wf_tl hw (by omega)
        refine lm_check hok (h := wI h MO 1 (nI 0)) hs hw1 (t := t) (N := N) (by rw [hm, nT_tl]; exact ht) (by omega) (by decide) trivial _ 0 0 (by omega) rfl ⟨by omega, by omega, ?_⟩
        have e : sCheck (mo h) (nI t) (nI N) = (chkF (stU (mo h) 1 1 (nI 0)) t N 6 0, stU (mo h) 1 1 (nI 0)) := by unfold sCheck; simp only [nI_clamp (show t < 2 ^ 31 by omega), nI_clamp (show N < 2 ^ 31 by omega)]; exact cif_t ⟨c5, N, by omega, rfl⟩
        rw [e, hm]
        exact ⟨rfl, rfl, (Mk.rf h).w (Or.inl rfl)⟩
      ·
        refine g_bipush (v := -2) (pc' := 25) dX12_check_23 rfl (by decide) ?_
        refine g_iret dX12_check_25 rfl (by decide) (by decide) ?_
        have e : sCheck (mo h) (nI t) (nI N) = (-2, mo h) := cif_f (fun z => by obtain ⟨j, hj, e⟩ := z.2; rw [nI_eq (by omega) (by omega)] at e; omega)
        rw [e]
        exact ⟨rfl, rfl, Mk.rf h⟩
