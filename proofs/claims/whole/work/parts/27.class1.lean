set_option maxRecDepth 4000 in
theorem cx_within {E : En} (hok : EOK E) {h : Hp} (x a b : Int32) : Call E m_X11_within 0 0 0 [vI x, vI a, vI b] h (fun r h' => r = some (vI (bi (a ≤ x ∧ x ≤ b))) ∧ h = h') := by
  refine Call.enter hok (by decide) (Nat.le_of_ble_eq_true rfl) ?_
  show G E m_X11_within 0 0 0 _ h 0 [some (vI x), some (vI a), some (vI b)] [] h 0 0
  refine g_iload_n (pc' := 1) dX11_within_0 rfl rfl ?_
  refine g_iload_n (pc' := 2) dX11_within_1 rfl rfl ?_
  refine g_icmp_lt (tgt := 14) (pc' := 5) dX11_within_2 rfl (by decide) (fun c2 => ?_) (fun c2 => ?_)
  ·
    refine g_iconstN (n := 0) (pc' := 15) dX11_within_14 rfl ?_
    refine g_zret dX11_within_15 rfl (by rfl) (by decide) (by decide) ?_
    exact ⟨congrArg (fun z : Int32 => some (vI z)) (bi_f (fun z => absurd z.1 (Int32.not_le.mpr c2))).symm, rfl⟩
  ·
    refine g_iload_n (pc' := 6) dX11_within_5 rfl rfl ?_
    refine g_iload_n (pc' := 7) dX11_within_6 rfl rfl ?_
    refine g_icmp_gt (tgt := 14) (pc' := 10) dX11_within_7 rfl (by decide) (fun c7 => ?_) (fun c7 => ?_)
    ·
      refine g_iconstN (n := 0) (pc' := 15) dX11_within_14 rfl ?_
      refine g_zret dX11_within_15 rfl (by rfl) (by decide) (by decide) ?_
      exact ⟨congrArg (fun z : Int32 => some (vI z)) (bi_f (fun z => absurd z.2 (Int32.not_le.mpr c7))).symm, rfl⟩
    ·
      refine g_iconstN (n := 1) (pc' := 11) dX11_within_10 rfl ?_
      refine g_goto (tgt := 15) dX11_within_11 (by decide) ?_
      refine g_zret dX11_within_15 rfl (by rfl) (by decide) (by decide) ?_
      exact ⟨congrArg (fun z : Int32 => some (vI z)) (bi_t ⟨Int32.not_lt.mp c2, Int32.not_lt.mp c7⟩).symm, rfl⟩
set_option maxRecDepth 4000 in
theorem cx_kindAt {E : En} (hok : EOK E) {h : Hp} {m : St} (hc : Cp m h) (hw : Wf m) {j : Nat} (hj : j < nK m) : Call E m_X11_kindAt 3 0 0 [vR TH, vI (nI j)] h (fun r h' => r = some (vR (2, j)) ∧ h = h') := by
  have hs := hc.s
  have hb := hw.k.2
  refine Call.enter hok (by decide) (Nat.le_of_ble_eq_true rfl) ?_
  show G E m_X11_kindAt 3 0 0 _ h 0 [some (vR TH), some (vI (nI j))] [] h 0 0
  refine g_iload_n (pc' := 1) dX11_kindAt_0 rfl rfl ?_
  refine g_iconstN (n := 0) (pc' := 2) dX11_kindAt_1 rfl ?_
  refine g_aload_n (pc' := 3) dX11_kindAt_2 rfl rfl ?_
  refine g_getS (pc' := 6) (k := 10) (b := (13, 0)) dX11_kindAt_3 rfl rfl ck_12 (by decide) fl_X11_31 rfl hs rfl ?_
  refine g_invV (pc' := 9) (ls_size hok hc.c5.1) dX11_kindAt_6 rfl rfl ck_0 rfl ml_X11_103 im_Jx4a65c_size_8abf5 sl_Jx4a65c_size_8abf5 in_Jx4a65c co_Jx4a65c_size_8abf5 pd_Jx4a65c_size_8abf5 rfl (by omega) (by decide) ⟨by decide, by decide⟩ (Nat.le_of_ble_eq_true rfl) ?_
  rintro _ _ ⟨rfl, rfl⟩ -
  refine g_iconstN (n := 1) (pc' := 10) dX11_kindAt_9 rfl ?_
  refine g_isub (pc' := 11) dX11_kindAt_10 rfl ?_
  refine g_invS (pc' := 14) (cx_within hok _ _ _) dX11_kindAt_11 rfl ml_X11_99 st_X11_within in_X11 co_X11_within pd_X11_within rfl (by omega) (by decide) ⟨by decide, by decide⟩ (Nat.le_of_ble_eq_true rfl) ?_
  rintro _ _ ⟨rfl, rfl⟩ -
  refine g_ifB_eq (tgt := 31) (pc' := 17) dX11_kindAt_14 rfl (by decide) (fun c14 => ?_) (fun c14 => ?_)
  · exact absurd ((inN_iff (by omega)).mpr ⟨j, hj, rfl⟩) c14
  ·
    refine g_aload_n (pc' := 18) dX11_kindAt_17 rfl rfl ?_
    refine g_getS (pc' := 21) (k := 10) (b := (13, 0)) dX11_kindAt_18 rfl rfl ck_12 (by decide) fl_X11_31 rfl hs rfl ?_
    refine g_iload_n (pc' := 22) dX11_kindAt_21 rfl rfl ?_
    refine g_invV (pc' := 25) (ls_get hok hc.c5.1 (by omega) hj) dX11_kindAt_22 rfl rfl ck_0 rfl ml_X11_324 im_Jx4a65c_get_915e3 sl_Jx4a65c_get_915e3 in_Jx4a65c co_Jx4a65c_get_915e3 pd_Jx4a65c_get_915e3 rfl (by omega) (by decide) ⟨by decide, by decide⟩ (Nat.le_of_ble_eq_true rfl) ?_
    rintro _ _ ⟨rfl, rfl⟩ -
    refine g_cast (pc' := 28) dX11_kindAt_25 rfl rfl ck_3 cl_X11_107 ?_
    refine g_goto (tgt := 32) dX11_kindAt_28 (by decide) ?_
    refine g_aret dX11_kindAt_32 rfl (by first | exact Or.inl ⟨_, rfl⟩ | exact Or.inr ⟨_, rfl⟩) (by decide) (by decide) ?_
    exact ⟨rfl, rfl⟩
set_option maxRecDepth 4000 in
theorem cx_kindAtN {E : En} (hok : EOK E) {h : Hp} {m : St} (hc : Cp m h) (hw : Wf m) {x : Int32} (hj : ¬ ∃ j : Nat, j < nK m ∧ x = nI j) : Call E m_X11_kindAt 3 0 0 [vR TH, vI x] h (fun r h' => r = some (vN) ∧ h = h') := by
  have hs := hc.s
  have hb := hw.k.2
  refine Call.enter hok (by decide) (Nat.le_of_ble_eq_true rfl) ?_
  show G E m_X11_kindAt 3 0 0 _ h 0 [some (vR TH), some (vI x)] [] h 0 0
  refine g_iload_n (pc' := 1) dX11_kindAt_0 rfl rfl ?_
  refine g_iconstN (n := 0) (pc' := 2) dX11_kindAt_1 rfl ?_
  refine g_aload_n (pc' := 3) dX11_kindAt_2 rfl rfl ?_
  refine g_getS (pc' := 6) (k := 10) (b := (13, 0)) dX11_kindAt_3 rfl rfl ck_12 (by decide) fl_X11_31 rfl hs rfl ?_
  refine g_invV (pc' := 9) (ls_size hok hc.c5.1) dX11_kindAt_6 rfl rfl ck_0 rfl ml_X11_103 im_Jx4a65c_size_8abf5 sl_Jx4a65c_size_8abf5 in_Jx4a65c co_Jx4a65c_size_8abf5 pd_Jx4a65c_size_8abf5 rfl (by omega) (by decide) ⟨by decide, by decide⟩ (Nat.le_of_ble_eq_true rfl) ?_
  rintro _ _ ⟨rfl, rfl⟩ -
  refine g_iconstN (n := 1) (pc' := 10) dX11_kindAt_9 rfl ?_
  refine g_isub (pc' := 11) dX11_kindAt_10 rfl ?_
  refine g_invS (pc' := 14) (cx_within hok _ _ _) dX11_kindAt_11 rfl ml_X11_99 st_X11_within in_X11 co_X11_within pd_X11_within rfl (by omega) (by decide) ⟨by decide, by decide⟩ (Nat.le_of_ble_eq_true rfl) ?_
  rintro _ _ ⟨rfl, rfl⟩ -
  refine g_ifB_eq (tgt := 31) (pc' := 17) dX11_kindAt_14 rfl (by decide) (fun c14 => ?_) (fun c14 => ?_)
  ·
    refine g_null (pc' := 32) dX11_kindAt_31 rfl ?_
    refine g_aret dX11_kindAt_32 rfl (by first | exact Or.inl ⟨_, rfl⟩ | exact Or.inr ⟨_, rfl⟩) (by decide) (by decide) ?_
    exact ⟨rfl, rfl⟩
  · exact absurd ((inN_iff (by omega)).mp c14) hj
set_option maxRecDepth 4000 in
theorem cx_toyAt {E : En} (hok : EOK E) {h : Hp} {m : St} (hc : Cp m h) (hw : Wf m) {j : Nat} (hj : j < nT m) : Call E m_X11_toyAt 3 0 0 [vR TH, vI (nI j)] h (fun r h' => r = some (vR (3, j)) ∧ h = h') := by
  have hs := hc.s
  have hb := hw.t.2
  refine Call.enter hok (by decide) (Nat.le_of_ble_eq_true rfl) ?_
  show G E m_X11_toyAt 3 0 0 _ h 0 [some (vR TH), some (vI (nI j))] [] h 0 0
  refine g_iload_n (pc' := 1) dX11_toyAt_0 rfl rfl ?_
  refine g_iconstN (n := 0) (pc' := 2) dX11_toyAt_1 rfl ?_
  refine g_aload_n (pc' := 3) dX11_toyAt_2 rfl rfl ?_
  refine g_getS (pc' := 6) (k := 11) (b := (13, 1)) dX11_toyAt_3 rfl rfl ck_12 (by decide) fl_X11_35 rfl hs rfl ?_
  refine g_invV (pc' := 9) (ls_size hok hc.c6.1) dX11_toyAt_6 rfl rfl ck_0 rfl ml_X11_103 im_Jx4a65c_size_8abf5 sl_Jx4a65c_size_8abf5 in_Jx4a65c co_Jx4a65c_size_8abf5 pd_Jx4a65c_size_8abf5 rfl (by omega) (by decide) ⟨by decide, by decide⟩ (Nat.le_of_ble_eq_true rfl) ?_
  rintro _ _ ⟨rfl, rfl⟩ -
  refine g_iconstN (n := 1) (pc' := 10) dX11_toyAt_9 rfl ?_
  refine g_isub (pc' := 11) dX11_toyAt_10 rfl ?_
  refine g_invS (pc' := 14) (cx_within hok _ _ _) dX11_toyAt_11 rfl ml_X11_99 st_X11_within in_X11 co_X11_within pd_X11_within rfl (by omega) (by decide) ⟨by decide, by decide⟩ (Nat.le_of_ble_eq_true rfl) ?_
  rintro _ _ ⟨rfl, rfl⟩ -
  refine g_ifB_eq (tgt := 31) (pc' := 17) dX11_toyAt_14 rfl (by decide) (fun c14 => ?_) (fun c14 => ?_)
  · exact absurd ((inN_iff (by omega)).mpr ⟨j, hj, rfl⟩) c14
  ·
    refine g_aload_n (pc' := 18) dX11_toyAt_17 rfl rfl ?_
    refine g_getS (pc' := 21) (k := 11) (b := (13, 1)) dX11_toyAt_18 rfl rfl ck_12 (by decide) fl_X11_35 rfl hs rfl ?_
    refine g_iload_n (pc' := 22) dX11_toyAt_21 rfl rfl ?_
    refine g_invV (pc' := 25) (ls_get hok hc.c6.1 (by omega) hj) dX11_toyAt_22 rfl rfl ck_0 rfl ml_X11_324 im_Jx4a65c_get_915e3 sl_Jx4a65c_get_915e3 in_Jx4a65c co_Jx4a65c_get_915e3 pd_Jx4a65c_get_915e3 rfl (by omega) (by decide) ⟨by decide, by decide⟩ (Nat.le_of_ble_eq_true rfl) ?_
    rintro _ _ ⟨rfl, rfl⟩ -
    refine g_cast (pc' := 28) dX11_toyAt_25 rfl rfl ck_9 cl_X11_133 ?_
    refine g_goto (tgt := 32) dX11_toyAt_28 (by decide) ?_
    refine g_aret dX11_toyAt_32 rfl (by first | exact Or.inl ⟨_, rfl⟩ | exact Or.inr ⟨_, rfl⟩) (by decide) (by decide) ?_
    exact ⟨rfl, rfl⟩
set_option maxRecDepth 4000 in
theorem cx_toyAtN {E : En} (hok : EOK E) {h : Hp} {m : St} (hc : Cp m h) (hw : Wf m) {x : Int32} (hj : ¬ ∃ j : Nat, j < nT m ∧ x = nI j) : Call E m_X11_toyAt 3 0 0 [vR TH, vI x] h (fun r h' => r = some (vN) ∧ h = h') := by
  have hs := hc.s
  have hb := hw.t.2
  refine Call.enter hok (by decide) (Nat.le_of_ble_eq_true rfl) ?_
  show G E m_X11_toyAt 3 0 0 _ h 0 [some (vR TH), some (vI x)] [] h 0 0
  refine g_iload_n (pc' := 1) dX11_toyAt_0 rfl rfl ?_
  refine g_iconstN (n := 0) (pc' := 2) dX11_toyAt_1 rfl ?_
  refine g_aload_n (pc' := 3) dX11_toyAt_2 rfl rfl ?_
  refine g_getS (pc' := 6) (k := 11) (b := (13, 1)) dX11_toyAt_3 rfl rfl ck_12 (by decide) fl_X11_35 rfl hs rfl ?_
  refine g_invV (pc' := 9) (ls_size hok hc.c6.1) dX11_toyAt_6 rfl rfl ck_0 rfl ml_X11_103 im_Jx4a65c_size_8abf5 sl_Jx4a65c_size_8abf5 in_Jx4a65c co_Jx4a65c_size_8abf5 pd_Jx4a65c_size_8abf5 rfl (by omega) (by decide) ⟨by decide, by decide⟩ (Nat.le_of_ble_eq_true rfl) ?_
  rintro _ _ ⟨rfl, rfl⟩ -
  refine g_iconstN (n := 1) (pc' := 10) dX11_toyAt_9 rfl ?_
  refine g_isub (pc' := 11) dX11_toyAt_10 rfl ?_
  refine g_invS (pc' := 14) (cx_within hok _ _ _) dX11_toyAt_11 rfl ml_X11_99 st_X11_within in_X11 co_X11_within pd_X11_within rfl (by omega) (by decide) ⟨by decide, by decide⟩ (Nat.le_of_ble_eq_true rfl) ?_
  rintro _ _ ⟨rfl, rfl⟩ -
  refine g_ifB_eq (tgt := 31) (pc' := 17) dX11_toyAt_14 rfl (by decide) (fun c14 => ?_) (fun c14 => ?_)
  ·
    refine g_null (pc' := 32) dX11_toyAt_31 rfl ?_
    refine g_aret dX11_toyAt_32 rfl (by first | exact Or.inl ⟨_, rfl⟩ | exact Or.inr ⟨_, rfl⟩) (by decide) (by decide) ?_
    exact ⟨rfl, rfl⟩
  · exact absurd ((inN_iff (by omega)).mp c14) hj
set_option maxRecDepth 4000 in
theorem cx_familyAt {E : En} (hok : EOK E) {h : Hp} {m : St} (hc : Cp m h) (hw : Wf m) {j : Nat} (hj : j < nF m) : Call E m_X11_familyAt 3 0 0 [vR TH, vI (nI j)] h (fun r h' => r = some (vR (4, j)) ∧ h = h') := by
  have hs := hc.s
  have hb := hw.f.2
  refine Call.enter hok (by decide) (Nat.le_of_ble_eq_true rfl) ?_
  show G E m_X11_familyAt 3 0 0 _ h 0 [some (vR TH), some (vI (nI j))] [] h 0 0
  refine g_iload_n (pc' := 1) dX11_familyAt_0 rfl rfl ?_
  refine g_iconstN (n := 0) (pc' := 2) dX11_familyAt_1 rfl ?_
  refine g_aload_n (pc' := 3) dX11_familyAt_2 rfl rfl ?_
  refine g_getS (pc' := 6) (k := 12) (b := (13, 2)) dX11_familyAt_3 rfl rfl ck_12 (by decide) fl_X11_38 rfl hs rfl ?_
  refine g_invV (pc' := 9) (ls_size hok hc.c8.1) dX11_familyAt_6 rfl rfl ck_0 rfl ml_X11_103 im_Jx4a65c_size_8abf5 sl_Jx4a65c_size_8abf5 in_Jx4a65c co_Jx4a65c_size_8abf5 pd_Jx4a65c_size_8abf5 rfl (by omega) (by decide) ⟨by decide, by decide⟩ (Nat.le_of_ble_eq_true rfl) ?_
  rintro _ _ ⟨rfl, rfl⟩ -
  refine g_iconstN (n := 1) (pc' := 10) dX11_familyAt_9 rfl ?_
  refine g_isub (pc' := 11) dX11_familyAt_10 rfl ?_
  refine g_invS (pc' := 14) (cx_within hok _ _ _) dX11_familyAt_11 rfl ml_X11_99 st_X11_within in_X11 co_X11_within pd_X11_within rfl (by omega) (by decide) ⟨by decide, by decide⟩ (Nat.le_of_ble_eq_true rfl) ?_
  rintro _ _ ⟨rfl, rfl⟩ -
  refine g_ifB_eq (tgt := 31) (pc' := 17) dX11_familyAt_14 rfl (by decide) (fun c14 => ?_) (fun c14 => ?_)
  · exact absurd ((inN_iff (by omega)).mpr ⟨j, hj, rfl⟩) c14
  ·
    refine g_aload_n (pc' := 18) dX11_familyAt_17 rfl rfl ?_
    refine g_getS (pc' := 21) (k := 12) (b := (13, 2)) dX11_familyAt_18 rfl rfl ck_12 (by decide) fl_X11_38 rfl hs rfl ?_
    refine g_iload_n (pc' := 22) dX11_familyAt_21 rfl rfl ?_
    refine g_invV (pc' := 25) (ls_get hok hc.c8.1 (by omega) hj) dX11_familyAt_22 rfl rfl ck_0 rfl ml_X11_324 im_Jx4a65c_get_915e3 sl_Jx4a65c_get_915e3 in_Jx4a65c co_Jx4a65c_get_915e3 pd_Jx4a65c_get_915e3 rfl (by omega) (by decide) ⟨by decide, by decide⟩ (Nat.le_of_ble_eq_true rfl) ?_
    rintro _ _ ⟨rfl, rfl⟩ -
    refine g_cast (pc' := 28) dX11_familyAt_25 rfl rfl ck_2 cl_X11_139 ?_
    refine g_goto (tgt := 32) dX11_familyAt_28 (by decide) ?_
    refine g_aret dX11_familyAt_32 rfl (by first | exact Or.inl ⟨_, rfl⟩ | exact Or.inr ⟨_, rfl⟩) (by decide) (by decide) ?_
    exact ⟨rfl, rfl⟩
set_option maxRecDepth 4000 in
theorem cx_familyAtN {E : En} (hok : EOK E) {h : Hp} {m : St} (hc : Cp m h) (hw : Wf m) {x : Int32} (hj : ¬ ∃ j : Nat, j < nF m ∧ x = nI j) : Call E m_X11_familyAt 3 0 0 [vR TH, vI x] h (fun r h' => r = some (vN) ∧ h = h') := by
  have hs := hc.s
  have hb := hw.f.2
  refine Call.enter hok (by decide) (Nat.le_of_ble_eq_true rfl) ?_
  show G E m_X11_familyAt 3 0 0 _ h 0 [some (vR TH), some (vI x)] [] h 0 0
  refine g_iload_n (pc' := 1) dX11_familyAt_0 rfl rfl ?_
  refine g_iconstN (n := 0) (pc' := 2) dX11_familyAt_1 rfl ?_
  refine g_aload_n (pc' := 3) dX11_familyAt_2 rfl rfl ?_
  refine g_getS (pc' := 6) (k := 12) (b := (13, 2)) dX11_familyAt_3 rfl rfl ck_12 (by decide) fl_X11_38 rfl hs rfl ?_
  refine g_invV (pc' := 9) (ls_size hok hc.c8.1) dX11_familyAt_6 rfl rfl ck_0 rfl ml_X11_103 im_Jx4a65c_size_8abf5 sl_Jx4a65c_size_8abf5 in_Jx4a65c co_Jx4a65c_size_8abf5 pd_Jx4a65c_size_8abf5 rfl (by omega) (by decide) ⟨by decide, by decide⟩ (Nat.le_of_ble_eq_true rfl) ?_
  rintro _ _ ⟨rfl, rfl⟩ -
  refine g_iconstN (n := 1) (pc' := 10) dX11_familyAt_9 rfl ?_
  refine g_isub (pc' := 11) dX11_familyAt_10 rfl ?_
  refine g_invS (pc' := 14) (cx_within hok _ _ _) dX11_familyAt_11 rfl ml_X11_99 st_X11_within in_X11 co_X11_within pd_X11_within rfl (by omega) (by decide) ⟨by decide, by decide⟩ (Nat.le_of_ble_eq_true rfl) ?_
  rintro _ _ ⟨rfl, rfl⟩ -
  refine g_ifB_eq (tgt := 31) (pc' := 17) dX11_familyAt_14 rfl (by decide) (fun c14 => ?_) (fun c14 => ?_)
  ·
    refine g_null (pc' := 32) dX11_familyAt_31 rfl ?_
    refine g_aret dX11_familyAt_32 rfl (by first | exact Or.inl ⟨_, rfl⟩ | exact Or.inr ⟨_, rfl⟩) (by decide) (by decide) ?_
    exact ⟨rfl, rfl⟩
  · exact absurd ((inN_iff (by omega)).mp c14) hj
set_option maxRecDepth 4000 in
theorem cx_recallAt {E : En} (hok : EOK E) {h : Hp} {m : St} (hc : Cp m h) (hw : Wf m) {j : Nat} (hj : j < nR m) : Call E m_X11_recallAt 3 0 0 [vR TH, vI (nI j)] h (fun r h' => r = some (vR (5, j)) ∧ h = h') := by
  have hs := hc.s
  have hb := hw.r.2
  refine Call.enter hok (by decide) (Nat.le_of_ble_eq_true rfl) ?_
  show G E m_X11_recallAt 3 0 0 _ h 0 [some (vR TH), some (vI (nI j))] [] h 0 0
  refine g_iload_n (pc' := 1) dX11_recallAt_0 rfl rfl ?_
  refine g_iconstN (n := 0) (pc' := 2) dX11_recallAt_1 rfl ?_
  refine g_aload_n (pc' := 3) dX11_recallAt_2 rfl rfl ?_
  refine g_getS (pc' := 6) (k := 13) (b := (13, 3)) dX11_recallAt_3 rfl rfl ck_12 (by decide) fl_X11_41 rfl hs rfl ?_
  refine g_invV (pc' := 9) (ls_size hok hc.c9.1) dX11_recallAt_6 rfl rfl ck_0 rfl ml_X11_103 im_Jx4a65c_size_8abf5 sl_Jx4a65c_size_8abf5 in_Jx4a65c co_Jx4a65c_size_8abf5 pd_Jx4a65c_size_8abf5 rfl (by omega) (by decide) ⟨by decide, by decide⟩ (Nat.le_of_ble_eq_true rfl) ?_
  rintro _ _ ⟨rfl, rfl⟩ -
  refine g_iconstN (n := 1) (pc' := 10) dX11_recallAt_9 rfl ?_
  refine g_isub (pc' := 11) dX11_recallAt_10 rfl ?_
  refine g_invS (pc' := 14) (cx_within hok _ _ _) dX11_recallAt_11 rfl ml_X11_99 st_X11_within in_X11 co_X11_within pd_X11_within rfl (by omega) (by decide) ⟨by decide, by decide⟩ (Nat.le_of_ble_eq_true rfl) ?_
  rintro _ _ ⟨rfl, rfl⟩ -
  refine g_ifB_eq (tgt := 31) (pc' := 17) dX11_recallAt_14 rfl (by decide) (fun c14 => ?_) (fun c14 => ?_)
  · exact absurd ((inN_iff (by omega)).mpr ⟨j, hj, rfl⟩) c14
  ·
    refine g_aload_n (pc' := 18) dX11_recallAt_17 rfl rfl ?_
    refine g_getS (pc' := 21) (k := 13) (b := (13, 3)) dX11_recallAt_18 rfl rfl ck_12 (by decide) fl_X11_41 rfl hs rfl ?_
    refine g_iload_n (pc' := 22) dX11_recallAt_21 rfl rfl ?_
    refine g_invV (pc' := 25) (ls_get hok hc.c9.1 (by omega) hj) dX11_recallAt_22 rfl rfl ck_0 rfl ml_X11_324 im_Jx4a65c_get_915e3 sl_Jx4a65c_get_915e3 in_Jx4a65c co_Jx4a65c_get_915e3 pd_Jx4a65c_get_915e3 rfl (by omega) (by decide) ⟨by decide, by decide⟩ (Nat.le_of_ble_eq_true rfl) ?_
    rintro _ _ ⟨rfl, rfl⟩ -
    refine g_cast (pc' := 28) dX11_recallAt_25 rfl rfl ck_5 cl_X11_416 ?_
    refine g_goto (tgt := 32) dX11_recallAt_28 (by decide) ?_
    refine g_aret dX11_recallAt_32 rfl (by first | exact Or.inl ⟨_, rfl⟩ | exact Or.inr ⟨_, rfl⟩) (by decide) (by decide) ?_
    exact ⟨rfl, rfl⟩
set_option maxRecDepth 4000 in
theorem cx_recallAtN {E : En} (hok : EOK E) {h : Hp} {m : St} (hc : Cp m h) (hw : Wf m) {x : Int32} (hj : ¬ ∃ j : Nat, j < nR m ∧ x = nI j) : Call E m_X11_recallAt 3 0 0 [vR TH, vI x] h (fun r h' => r = some (vN) ∧ h = h') := by
  have hs := hc.s
  have hb := hw.r.2
  refine Call.enter hok (by decide) (Nat.le_of_ble_eq_true rfl) ?_
  show G E m_X11_recallAt 3 0 0 _ h 0 [some (vR TH), some (vI x)] [] h 0 0
  refine g_iload_n (pc' := 1) dX11_recallAt_0 rfl rfl ?_
  refine g_iconstN (n := 0) (pc' := 2) dX11_recallAt_1 rfl ?_
  refine g_aload_n (pc' := 3) dX11_recallAt_2 rfl rfl ?_
  refine g_getS (pc' := 6) (k := 13) (b := (13, 3)) dX11_recallAt_3 rfl rfl ck_12 (by decide) fl_X11_41 rfl hs rfl ?_
  refine g_invV (pc' := 9) (ls_size hok hc.c9.1) dX11_recallAt_6 rfl rfl ck_0 rfl ml_X11_103 im_Jx4a65c_size_8abf5 sl_Jx4a65c_size_8abf5 in_Jx4a65c co_Jx4a65c_size_8abf5 pd_Jx4a65c_size_8abf5 rfl (by omega) (by decide) ⟨by decide, by decide⟩ (Nat.le_of_ble_eq_true rfl) ?_
  rintro _ _ ⟨rfl, rfl⟩ -
  refine g_iconstN (n := 1) (pc' := 10) dX11_recallAt_9 rfl ?_
  refine g_isub (pc' := 11) dX11_recallAt_10 rfl ?_
  refine g_invS (pc' := 14) (cx_within hok _ _ _) dX11_recallAt_11 rfl ml_X11_99 st_X11_within in_X11 co_X11_within pd_X11_within rfl (by omega) (by decide) ⟨by decide, by decide⟩ (Nat.le_of_ble_eq_true rfl) ?_
  rintro _ _ ⟨rfl, rfl⟩ -
  refine g_ifB_eq (tgt := 31) (pc' := 17) dX11_recallAt_14 rfl (by decide) (fun c14 => ?_) (fun c14 => ?_)
  ·
    refine g_null (pc' := 32) dX11_recallAt_31 rfl ?_
    refine g_aret dX11_recallAt_32 rfl (by first | exact Or.inl ⟨_, rfl⟩ | exact Or.inr ⟨_, rfl⟩) (by decide) (by decide) ?_
    exact ⟨rfl, rfl⟩
  · exact absurd ((inN_iff (by omega)).mp c14) hj
