set_option maxRecDepth 4000 in
theorem cx_covers0 {E : En} (hok : EOK E) {h : Hp} {m : St} (hs : Shp h.2) (hw : Wf m) (c5 : C5 m h) (c6 : C6 m h) {r : Nat} (r0_ : h.1 (5, r) 0 = m 161 r) (r1_ : h.1 (5, r) 1 = m 162 r) (r2_ : h.1 (5, r) 2 = m 163 r) {t : Nat} (ht : t < nT m) : Call E m_X4_covers 1 0 0 [vR (5, r), vR (3, t)] h (fun r0 h' => r0 = some (vI (bi (isOfm m r t))) ∧ h = h') := by
  have hKb := hw.k.2
  have hTb := hw.t.2
  have hkd := (hw.kd ht).2
  refine Call.enter hok (by decide) (Nat.le_of_ble_eq_true rfl) ?_
  show G E m_X4_covers 1 0 0 _ h 0 [some (vR (5, r)), some (vR (3, t))] [] h 0 0
  refine g_aload_n (pc' := 1) dX4_covers_0 rfl rfl ?_
  refine g_getR (pc' := 4) (k := 1) (r := some (2, kd m t)) dX4_covers_1 rfl rfl ck_9 (by decide) fl_X4_34 rfl ((c6.2.1 t ht).1) ?_
  refine g_getIv (v := m 111 (kd m t)) (pc' := 7) (k := 4) dX4_covers_4 rfl rfl ck_3 (by decide) fl_X4_40 rfl ((c5.2.1 _ hkd).1.2.2.2.2.1) ?_
  refine g_aload_n (pc' := 8) dX4_covers_7 rfl rfl ?_
  refine g_getIv (v := m 161 r) (pc' := 11) (k := 0) dX4_covers_8 rfl rfl ck_5 (by decide) fl_X4_9 rfl (r0_) ?_
  refine g_icmp_ne (tgt := 36) (pc' := 14) dX4_covers_11 rfl (by decide) (fun c11 => ?_) (fun c11 => ?_)
  ·
    refine g_iconstN (n := 0) (pc' := 37) dX4_covers_36 rfl ?_
    refine g_zret dX4_covers_37 rfl (by rfl) (by decide) (by decide) ?_
    exact ⟨congrArg (fun z : Int32 => some (vI z)) (bi_f (P := isOfm m r t) (fun z => c11 z.1.symm)).symm, rfl⟩
  ·
    refine g_aload_n (pc' := 15) dX4_covers_14 rfl rfl ?_
    refine g_getIv (v := m 116 t) (pc' := 18) (k := 2) dX4_covers_15 rfl rfl ck_9 (by decide) fl_X4_43 rfl ((c6.2.1 t ht).2.1.2.1) ?_
    refine g_aload_n (pc' := 19) dX4_covers_18 rfl rfl ?_
    refine g_getIv (v := m 162 r) (pc' := 22) (k := 1) dX4_covers_19 rfl rfl ck_5 (by decide) fl_X4_15 rfl (r1_) ?_
    refine g_aload_n (pc' := 23) dX4_covers_22 rfl rfl ?_
    refine g_getIv (v := m 163 r) (pc' := 26) (k := 2) dX4_covers_23 rfl rfl ck_5 (by decide) fl_X4_18 rfl (r2_) ?_
    refine g_invSN (pc' := 29) (cx_within hok _ _ _) dX4_covers_26 rfl nn_X4_46 st_X11_within in_X11 co_X11_within pd_X11_within rfl (by omega) (by decide) ⟨by decide, by decide⟩ (Nat.le_of_ble_eq_true rfl) ?_
    rintro _ _ ⟨rfl, rfl⟩ -
    refine g_ifB_eq (tgt := 36) (pc' := 32) dX4_covers_29 rfl (by decide) (fun c29 => ?_) (fun c29 => ?_)
    ·
      refine g_iconstN (n := 0) (pc' := 37) dX4_covers_36 rfl ?_
      refine g_zret dX4_covers_37 rfl (by rfl) (by decide) (by decide) ?_
      exact ⟨congrArg (fun z : Int32 => some (vI z)) (bi_f (P := isOfm m r t) (fun z => c29 z.2)).symm, rfl⟩
    ·
      refine g_iconstN (n := 1) (pc' := 33) dX4_covers_32 rfl ?_
      refine g_goto (tgt := 37) dX4_covers_33 (by decide) ?_
      refine g_zret dX4_covers_37 rfl (by rfl) (by decide) (by decide) ?_
      exact ⟨congrArg (fun z : Int32 => some (vI z)) (bi_t (P := isOfm m r t) (⟨c11.symm, c29⟩)).symm, rfl⟩
set_option maxRecDepth 4000 in
theorem lx_holders0 {E : En} (hok : EOK E) {h h0 : Hp} {m : St} (hs : Shp h.2) (hw : Wf m) (c5 : C5 m h) (c6 : C6 m h) {r : Nat} (r0_ : h.1 (5, r) 0 = m 161 r) (r1_ : h.1 (5, r) 1 = m 162 r) (r2_ : h.1 (5, r) 2 = m 163 r) {d : Nat} (hd : 3 ≤ d) {Q : Option V → Hp → Prop} (hQ : Q (some (vI (hadN m r))) h) : ∀ n t : Nat, t ≤ nT m → nT m - t = n → G E m_X11_holdersNow d 0 0 Q h0 4 [some (vR TH), some (vR (5, r)), some (vI (orr (fun t => cif (m 118 t = 1 ∧ isOfm m r t) ((1 : Int32) <<< (m 119 t &&& 31)) 0) t)), some (vI (nI t)), none] [] h 0 0 := by
  have hKb := hw.k.2
  have hTb := hw.t.2
  intro n
  induction n with
  | zero =>
    intro t h1 h2
    refine g_iload_n (pc' := 5) dX11_holdersNow_4 rfl rfl ?_
    refine g_aload_n (pc' := 6) dX11_holdersNow_5 rfl rfl ?_
    refine g_getS (pc' := 9) (k := 11) (b := (13, 1)) dX11_holdersNow_6 rfl rfl ck_12 (by decide) fl_X11_35 rfl hs rfl ?_
    refine g_invV (pc' := 12) (ls_size hok c6.1) dX11_holdersNow_9 rfl rfl ck_0 rfl ml_X11_103 im_Jx4a65c_size_8abf5 sl_Jx4a65c_size_8abf5 in_Jx4a65c co_Jx4a65c_size_8abf5 pd_Jx4a65c_size_8abf5 rfl (by omega) (by decide) ⟨by decide, by decide⟩ (Nat.le_of_ble_eq_true rfl) ?_
    rintro _ _ ⟨rfl, rfl⟩ -
    refine g_icmp_geN (tgt := 62) (pc' := 15) dX11_holdersNow_12 rfl (by decide) (by omega) (by omega) (fun c12 => ?_) (fun c12 => ?_)
    ·
      refine g_iload_n (pc' := 63) dX11_holdersNow_62 rfl rfl ?_
      refine g_iret dX11_holdersNow_63 rfl (by decide) (by decide) ?_
      have e : t = nT m := by omega
      subst e
      exact hQ
    · exact absurd c12 (by omega)
  | succ n ih =>
    intro t h1 h2
    refine g_iload_n (pc' := 5) dX11_holdersNow_4 rfl rfl ?_
    refine g_aload_n (pc' := 6) dX11_holdersNow_5 rfl rfl ?_
    refine g_getS (pc' := 9) (k := 11) (b := (13, 1)) dX11_holdersNow_6 rfl rfl ck_12 (by decide) fl_X11_35 rfl hs rfl ?_
    refine g_invV (pc' := 12) (ls_size hok c6.1) dX11_holdersNow_9 rfl rfl ck_0 rfl ml_X11_103 im_Jx4a65c_size_8abf5 sl_Jx4a65c_size_8abf5 in_Jx4a65c co_Jx4a65c_size_8abf5 pd_Jx4a65c_size_8abf5 rfl (by omega) (by decide) ⟨by decide, by decide⟩ (Nat.le_of_ble_eq_true rfl) ?_
    rintro _ _ ⟨rfl, rfl⟩ -
    refine g_icmp_geN (tgt := 62) (pc' := 15) dX11_holdersNow_12 rfl (by decide) (by omega) (by omega) (fun c12 => ?_) (fun c12 => ?_)
    · exact absurd c12 (by omega)
    ·
      refine g_aload_n (pc' := 16) dX11_holdersNow_15 rfl rfl ?_
      refine g_getS (pc' := 19) (k := 11) (b := (13, 1)) dX11_holdersNow_16 rfl rfl ck_12 (by decide) fl_X11_35 rfl hs rfl ?_
      refine g_iload_n (pc' := 20) dX11_holdersNow_19 rfl rfl ?_
      refine g_invV (pc' := 23) (ls_get hok c6.1 (j := t) (by omega) (by omega)) dX11_holdersNow_20 rfl rfl ck_0 rfl ml_X11_324 im_Jx4a65c_get_915e3 sl_Jx4a65c_get_915e3 in_Jx4a65c co_Jx4a65c_get_915e3 pd_Jx4a65c_get_915e3 rfl (by omega) (by decide) ⟨by decide, by decide⟩ (Nat.le_of_ble_eq_true rfl) ?_
      rintro _ _ ⟨rfl, rfl⟩ -
      refine g_cast (pc' := 26) dX11_holdersNow_23 rfl rfl ck_9 cl_X11_133 ?_
      refine g_astore (pc' := 28) dX11_holdersNow_26 rfl (by decide) rfl ?_
      try simp only [List.set]
      refine g_aload (pc' := 30) dX11_holdersNow_28 rfl rfl ?_
      refine g_getIv (v := m 118 t) (pc' := 33) (k := 7) dX11_holdersNow_30 rfl rfl ck_9 (by decide) fl_X11_264 rfl ((c6.2.1 t (by omega)).2.1.2.2.1) ?_
      refine g_iconstN (n := 1) (pc' := 34) dX11_holdersNow_33 rfl ?_
      refine g_icmp_ne (tgt := 56) (pc' := 37) dX11_holdersNow_34 rfl (by decide) (fun c34 => ?_) (fun c34 => ?_)
      ·
        refine g_iincN (k := 1) (pc' := 59) dX11_holdersNow_56 rfl rfl (by decide) rfl ?_
        try simp only [List.set]
        refine g_goto (tgt := 4) dX11_holdersNow_59 (by decide) ?_
        refine G.drop 4 ?_
        simp only [List.set]
        have q := ih (t + 1) (by omega) (by omega)
        have eo : orr (fun t => cif (m 118 t = 1 ∧ isOfm m r t) ((1 : Int32) <<< (m 119 t &&& 31)) 0) (t + 1) = orr (fun t => cif (m 118 t = 1 ∧ isOfm m r t) ((1 : Int32) <<< (m 119 t &&& 31)) 0) t ||| 0 := congrArg (fun z => orr (fun t => cif (m 118 t = 1 ∧ isOfm m r t) ((1 : Int32) <<< (m 119 t &&& 31)) 0) t ||| z) (cif_f (fun z => c34 z.1))
        rw [eo, Int32.or_zero] at q
        exact q
      ·
        refine g_aload_n (pc' := 38) dX11_holdersNow_37 rfl rfl ?_
        refine g_aload (pc' := 40) dX11_holdersNow_38 rfl rfl ?_
        refine g_invV (pc' := 43) (cx_covers0 hok hs hw c5 c6 r0_ r1_ r2_ (t := t) (by omega)) dX11_holdersNow_40 rfl rfl ck_5 rfl ml_X11_455 im_X4_covers sl_X4_covers in_X4 co_X4_covers pd_X4_covers rfl (by omega) (by decide) ⟨by decide, by decide⟩ (Nat.le_of_ble_eq_true rfl) ?_
        rintro _ _ ⟨rfl, rfl⟩ -
        refine g_ifB_eq (tgt := 56) (pc' := 46) dX11_holdersNow_43 rfl (by decide) (fun c43 => ?_) (fun c43 => ?_)
        ·
          refine g_iincN (k := 1) (pc' := 59) dX11_holdersNow_56 rfl rfl (by decide) rfl ?_
          try simp only [List.set]
          refine g_goto (tgt := 4) dX11_holdersNow_59 (by decide) ?_
          refine G.drop 4 ?_
          simp only [List.set]
          have q := ih (t + 1) (by omega) (by omega)
          have eo : orr (fun t => cif (m 118 t = 1 ∧ isOfm m r t) ((1 : Int32) <<< (m 119 t &&& 31)) 0) (t + 1) = orr (fun t => cif (m 118 t = 1 ∧ isOfm m r t) ((1 : Int32) <<< (m 119 t &&& 31)) 0) t ||| 0 := congrArg (fun z => orr (fun t => cif (m 118 t = 1 ∧ isOfm m r t) ((1 : Int32) <<< (m 119 t &&& 31)) 0) t ||| z) (cif_f (fun z => c43 z.2))
          rw [eo, Int32.or_zero] at q
          exact q
        ·
          refine g_iload_n (pc' := 47) dX11_holdersNow_46 rfl rfl ?_
          refine g_iconst (v := 1) (pc' := 48) dX11_holdersNow_47 rfl (by decide) ?_
          refine g_aload (pc' := 50) dX11_holdersNow_48 rfl rfl ?_
          refine g_getIv (v := m 119 t) (pc' := 53) (k := 8) dX11_holdersNow_50 rfl rfl ck_9 (by decide) fl_X11_271 rfl ((c6.2.1 t (by omega)).2.1.2.2.2.1) ?_
          refine g_ishl (pc' := 54) dX11_holdersNow_53 rfl ?_
          refine g_ior (pc' := 55) dX11_holdersNow_54 rfl ?_
          refine g_istore_n (pc' := 56) dX11_holdersNow_55 rfl (by decide) rfl ?_
          try simp only [List.set]
          refine g_iincN (k := 1) (pc' := 59) dX11_holdersNow_56 rfl rfl (by decide) rfl ?_
          try simp only [List.set]
          refine g_goto (tgt := 4) dX11_holdersNow_59 (by decide) ?_
          refine G.drop 4 ?_
          simp only [List.set]
          have q := ih (t + 1) (by omega) (by omega)
          have eo : orr (fun t => cif (m 118 t = 1 ∧ isOfm m r t) ((1 : Int32) <<< (m 119 t &&& 31)) 0) (t + 1) = orr (fun t => cif (m 118 t = 1 ∧ isOfm m r t) ((1 : Int32) <<< (m 119 t &&& 31)) 0) t ||| ((1 : Int32) <<< (m 119 t &&& 31)) := congrArg (fun z => orr (fun t => cif (m 118 t = 1 ∧ isOfm m r t) ((1 : Int32) <<< (m 119 t &&& 31)) 0) t ||| z) (cif_t ⟨c34, c43⟩)
          rw [eo] at q
          exact q
set_option maxRecDepth 4000 in
theorem cx_holders0 {E : En} (hok : EOK E) {h : Hp} {m : St} (hs : Shp h.2) (hw : Wf m) (c5 : C5 m h) (c6 : C6 m h) {r : Nat} (r0_ : h.1 (5, r) 0 = m 161 r) (r1_ : h.1 (5, r) 1 = m 162 r) (r2_ : h.1 (5, r) 2 = m 163 r) : Call E m_X11_holdersNow 3 0 0 [vR TH, vR (5, r)] h (fun r0 h' => r0 = some (vI (hadN m r)) ∧ h = h') := by
  refine Call.enter hok (by decide) (Nat.le_of_ble_eq_true rfl) ?_
  show G E m_X11_holdersNow 3 0 0 _ h 0 [some (vR TH), some (vR (5, r)), none, none, none] [] h 0 0
  refine g_iconst (v := 0) (pc' := 1) dX11_holdersNow_0 rfl (by decide) ?_
  refine g_istore_n (pc' := 2) dX11_holdersNow_1 rfl (by decide) rfl ?_
  try simp only [List.set]
  refine g_iconstN (n := 0) (pc' := 3) dX11_holdersNow_2 rfl ?_
  refine g_istore_n (pc' := 4) dX11_holdersNow_3 rfl (by decide) rfl ?_
  try simp only [List.set]
  exact lx_holders0 hok hs hw c5 c6 r0_ r1_ r2_ (Nat.le_refl _) ⟨rfl, rfl⟩ _ 0 (Nat.zero_le _) rfl
theorem re_fr (h : Hp) (k : Nat) (n a p z : Int32) : Fr (NK [5, 30] k) h (reH (nH h (5, k)) k n a p z) := by
  have s2 : NK [5, 30] k (5, k) := ⟨by simp, rfl⟩
  have s24 : NK [5, 30] k (30, k) := ⟨by simp, rfl⟩
  exact (((((((((Fr.rf _ h).nH s2).wI s2).wI s2).wI s2).wI s2).nH s24).wR s2)).wN s24 10
theorem re_v (h : Hp) (k : Nat) (n a p z : Int32) : (reH (nH h (5, k)) k n a p z).1 (5, k) 0 = n ∧ (reH (nH h (5, k)) k n a p z).1 (5, k) 1 = a ∧ (reH (nH h (5, k)) k n a p z).1 (5, k) 2 = p ∧ (reH (nH h (5, k)) k n a p z).1 (5, k) 3 = z ∧ (∀ j, j < 10 → (reH (nH h (5, k)) k n a p z).1 (30, k) j = -1) ∧ (reH (nH h (5, k)) k n a p z).2.1 (5, k) 4 = some (30, k) := by
  refine ⟨?_, ?_, ?_, ?_, fun j hj => ?_, ?_⟩
  · unfold reH; rw [wN_off _ _ _ _ (ad_ne (show (5 : Nat) ≠ 30 by decide))]; simp [wI, wR, nH, upd, va_up]
  · unfold reH; rw [wN_off _ _ _ _ (ad_ne (show (5 : Nat) ≠ 30 by decide))]; simp [wI, wR, nH, upd, va_up]
  · unfold reH; rw [wN_off _ _ _ _ (ad_ne (show (5 : Nat) ≠ 30 by decide))]; simp [wI, wR, nH, upd, va_up]
  · unfold reH; rw [wN_off _ _ _ _ (ad_ne (show (5 : Nat) ≠ 30 by decide))]; simp [wI, wR, nH, upd, va_up]
  · have q := wN_at (wR (nH (wI (wI (wI (wI (nH h (5, k)) (5, k) 0 n) (5, k) 1 a) (5, k) 2 p) (5, k) 3 z) (30, k)) (5, k) 4 (some (30, k))) (30, k) 0 (fun _ => (-1 : Int32)) 10 hj
    rw [Nat.zero_add] at q
    exact q
  · unfold reH; rw [wN_2]; simp [wI, wR, nH, upd, va_up]
theorem st4_at {m : St} {a p z : Int32} {s : Nat} {f : Int32} (q : s = 161 ∧ f = a ∨ s = 162 ∧ f = p ∨ s = 163 ∧ f = z ∨ s = 164 ∧ f = m 1 2) (j : Nat) : st4 m a p z s j = if j = nR m then f else m s j := by
  rcases q with ⟨rfl, rfl⟩ | ⟨rfl, rfl⟩ | ⟨rfl, rfl⟩ | ⟨rfl, rfl⟩ <;> simp [st4, stU_at]
/-- what holds while the recall is made -/
theorem re_mid {m : St} {h : Hp} {a p z : Int32} (hc : Cp m h) (hw : Wf m) (hR : nR m < 10) : Shp (reH (nH h (5, nR m)) (nR m) a p z (m 1 2)).2 ∧ Wf (st4 m a p z) ∧ C5 (st4 m a p z) (reH (nH h (5, nR m)) (nR m) a p z (m 1 2)) ∧ C6 (st4 m a p z) (reH (nH h (5, nR m)) (nR m) a p z (m 1 2)) ∧ (reH (nH h (5, nR m)) (nR m) a p z (m 1 2)).1 (5, nR m) 0 = st4 m a p z 161 (nR m) ∧ (reH (nH h (5, nR m)) (nR m) a p z (m 1 2)).1 (5, nR m) 1 = st4 m a p z 162 (nR m) ∧ (reH (nH h (5, nR m)) (nR m) a p z (m 1 2)).1 (5, nR m) 2 = st4 m a p z 163 (nR m) := by
  have kv := re_v h (nR m) a p z (m 1 2)
  have fr : Fr (SK 3 [5, 30] (nR m)) h (reH (nH h (5, nR m)) (nR m) a p z (m 1 2)) := (re_fr h (nR m) a p z (m 1 2)).up (fun q y => Or.inr (Or.inr y))
  have ha : ∀ q ∈ [5, 30], q < 61 ∧ q ≠ 13 := by decide
  refine ⟨hc.s.fr fr ?_, hw, hc.c5.fr fr (by decide) (by decide) (by decide) (by decide) ha rfl rfl rfl rfl rfl rfl rfl rfl, hc.c6.fr fr (by decide) (by decide) (by decide) (by decide) (by decide) ha rfl rfl rfl rfl rfl rfl rfl rfl rfl rfl rfl rfl, ?_, ?_, ?_⟩
  · intro s hs j q e
    simp only [List.mem_cons, List.not_mem_nil, or_false] at hs
    rcases hs with rfl | rfl
    · obtain ⟨rfl, rfl⟩ := sh5_inv e
      exact kv.2.2.2.2.2
    · rw [sh30] at e; cases e
  · rw [kv.1, st4_at (f := a) (by simp), if_pos rfl]
  · rw [kv.2.1, st4_at (f := p) (by simp), if_pos rfl]
  · rw [kv.2.2.1, st4_at (f := z) (by simp), if_pos rfl]
theorem re2_fr (h : Hp) (k : Nat) (n a p z x : Int32) : Fr (NK [5, 30] k) h (wI (reH (nH h (5, k)) k n a p z) (5, k) 5 x) := (re_fr h k n a p z).wI ⟨by simp, rfl⟩
theorem rec_end {m : St} {h h2 : Hp} {a p z : Int32} (hc : Cp m h) (hw : Wf m) (hx : Wx m) (hF8 : nR m < 10) (l2 : LsA h2 3 (nR m + 1) 5) (f2 : Fr (SK 3 [] 0) (wI (reH (nH h (5, nR m)) (nR m) a p z (m 1 2)) (5, nR m) 5 (hadN (st4 m a p z) (nR m))) h2) : some (vI (nI (nR m))) = some (vI (nI (nR m), stU (stU (st4 m a p z) 165 (nR m) (hadN (st4 m a p z) (nR m))) 1 59 (nI (nR m + 1))).1) ∧ Cp (nI (nR m), stU (stU (st4 m a p z) 165 (nR m) (hadN (st4 m a p z) (nR m))) 1 59 (nI (nR m + 1))).2 h2 ∧ mo h2 = mo h := by
  have frT : Fr (SK 3 [5, 30] (nR m)) h h2 := (re2_fr h (nR m) a p z (m 1 2) _).two f2
  have g2 : ∀ s j, s = 5 ∨ s = 30 → h2.1 (s, j) = (wI (reH (nH h (5, nR m)) (nR m) a p z (m 1 2)) (5, nR m) 5 (hadN (st4 m a p z) (nR m))).1 (s, j) ∧ h2.2.1 (s, j) = (wI (reH (nH h (5, nR m)) (nR m) a p z (m 1 2)) (5, nR m) 5 (hadN (st4 m a p z) (nR m))).2.1 (s, j) ∧ h2.2.2 (s, j) = (wI (reH (nH h (5, nR m)) (nR m) a p z (m 1 2)) (5, nR m) 5 (hadN (st4 m a p z) (nR m))).2.2 (s, j) := fun s j hs => f2 (s, j) (nS (Or.inl (by omega)) (Or.inl (by omega)) (Or.inl (by simp)))
  have kv := re_v h (nR m) a p z (m 1 2)
  have y5 : ∀ j, (wI (reH (nH h (5, nR m)) (nR m) a p z (m 1 2)) (5, nR m) 5 (hadN (st4 m a p z) (nR m))).1 (5, nR m) j = if j = 5 then hadN (st4 m a p z) (nR m) else (reH (nH h (5, nR m)) (nR m) a p z (m 1 2)).1 (5, nR m) j := fun j => by rw [wI_at]; simp
  have y30 : (wI (reH (nH h (5, nR m)) (nR m) a p z (m 1 2)) (5, nR m) 5 (hadN (st4 m a p z) (nR m))).1 (30, nR m) = (reH (nH h (5, nR m)) (nR m) a p z (m 1 2)).1 (30, nR m) := wI_off _ _ _ _ _ (ad_ne (show (30 : Nat) ≠ 5 by decide))
  have hz : ∀ q ∈ [5, 30], q = 2 ∨ q = 3 ∨ q = 4 ∨ q = 5 ∨ (24 ≤ q ∧ q ≤ 30) := by decide
  have ha : ∀ q ∈ [5, 30], q < 61 ∧ q ≠ 13 := by decide
  have eK : nR (stU (stU (st4 m a p z) 165 (nR m) (hadN (st4 m a p z) (nR m))) 1 59 (nI (nR m + 1))) = nR m + 1 := nI_clamp (by omega)
  have e1 : ∀ s f, s = 161 ∧ f = a ∨ s = 162 ∧ f = p ∨ s = 163 ∧ f = z ∨ s = 164 ∧ f = m 1 2 → ∀ j, (stU (stU (st4 m a p z) 165 (nR m) (hadN (st4 m a p z) (nR m))) 1 59 (nI (nR m + 1))) s j = if j = nR m then f else m s j := by
    intro s f q j
    rw [← st4_at q j]
    rcases q with ⟨rfl, rfl⟩ | ⟨rfl, rfl⟩ | ⟨rfl, rfl⟩ | ⟨rfl, rfl⟩ <;> rfl
  have e165 : ∀ j, (stU (stU (st4 m a p z) 165 (nR m) (hadN (st4 m a p z) (nR m))) 1 59 (nI (nR m + 1))) 165 j = if j = nR m then hadN (st4 m a p z) (nR m) else m 165 j := fun j => by
    show stU (st4 m a p z) 165 (nR m) _ 165 j = _
    rw [stU_at]
    simp
    rfl
  have e166 : (stU (stU (st4 m a p z) 165 (nR m) (hadN (st4 m a p z) (nR m))) 1 59 (nI (nR m + 1))) 166 = m 166 := rfl
  have old : ∀ s j, j ≠ nR m → s ≠ 13 → s < 61 → h2.1 (s, j) = h.1 (s, j) ∧ h2.2.1 (s, j) = h.2.1 (s, j) ∧ h2.2.2 (s, j) = h.2.2 (s, j) := fun s j hj hs h6 => frT (s, j) (nS (Or.inl hs) (Or.inl h6) (Or.inr hj))
  have k9 : C9 (stU (stU (st4 m a p z) 165 (nR m) (hadN (st4 m a p z) (nR m))) 1 59 (nI (nR m + 1))) h2 := by
    refine ⟨?_, fun u hu => ?_, fun u hu => ?_⟩
    · rw [eK]
      refine l2.ls fun j hj => ?_
      rw [(old 5 j (by omega) (by decide) (by decide)).2.2]
      exact hc.c9.1.2.2.2.1 j (by omega)
    · rw [eK] at hu
      rw [e1 161 a (by simp), e1 162 p (by simp), e1 163 z (by simp), e1 164 (m 1 2) (by simp), e165, e166]
      by_cases y : u = nR m
      · subst y
        simp only [if_true, (g2 5 (nR m) (by simp)).1, (g2 30 (nR m) (by simp)).1, y5, y30]
        exact ⟨⟨kv.1, kv.2.1, kv.2.2.1, kv.2.2.2.1, trivial⟩, fun j hj => (kv.2.2.2.2.1 j hj).trans (hx.zr (nR m) j (Or.inl (Nat.le_refl _)) hj).symm⟩
      · simp only [if_neg y, (old 5 u y (by decide) (by decide)).1, (old 30 u y (by decide) (by decide)).1]
        exact hc.c9.2.1 u (by omega)
    · rw [eK] at hu
      rw [(old 30 u (by omega) (by decide) (by decide)).2.2]
      exact hc.c9.2.2 u (by omega)
  have hn : ∀ s ∈ [5, 30], ∀ j q, sh s j (nR m) = some q → h2.2.1 (s, nR m) j = some q := by
    intro s hs j q e
    simp only [List.mem_cons, List.not_mem_nil, or_false] at hs
    rcases hs with rfl | rfl
    · obtain ⟨rfl, rfl⟩ := sh5_inv e
      rw [(g2 5 (nR m) (by simp)).2.1]; exact kv.2.2.2.2.2
    · rw [sh30] at e; cases e
  refine ⟨rfl, ?_, mo_same (fun q hq => (frT q ?_).1)⟩
  · exact hc.fr frT hz hn (hc.c5.fr frT (by decide) (by decide) (by decide) (by decide) ha rfl rfl rfl rfl rfl rfl rfl rfl) (hc.c6.fr frT (by decide) (by decide) (by decide) (by decide) (by decide) ha rfl rfl rfl rfl rfl rfl rfl rfl rfl rfl rfl rfl) (hc.c7.fr frT (by decide) (by decide) (by decide) rfl rfl rfl rfl rfl) (hc.c8.fr frT (by decide) (by decide) (by decide) ha rfl rfl rfl rfl rfl rfl) k9 (hc.c11.same rfl rfl rfl rfl rfl rfl (fun f => by rw [(frT.s 4 (by decide) (by decide) (by decide) f).1]) (frT.s 23 (by decide) (by decide) (by decide) 0).1) rfl rfl rfl rfl rfl rfl rfl rfl rfl rfl rfl rfl rfl rfl rfl rfl rfl rfl rfl rfl rfl
  · rintro (⟨y, -⟩ | ⟨y1, y2, -⟩ | ⟨y, -⟩)
    · rw [y] at hq; exact hq rfl
    · rcases (show q.1 = 61 ∨ q.1 = 62 ∨ q.1 = 63 by omega) with e | e | e <;> (rw [e] at hq; exact hq rfl)
    · simp only [List.mem_cons, List.not_mem_nil, or_false] at y
      rcases y with e | e <;> (rw [e] at hq; exact hq rfl)
set_option maxRecDepth 4000 in
theorem cx_recall {E : En} (hok : EOK E) {h : Hp} {m : St} (hc : Cp m h) (hw : Wf m) (hx : Wx m) (a : Int32) (p : Int32) (z : Int32) : Call E m_X11_recall 5 3 26 [vR TH, vI a, vI p, vI z] h (fun r h' => r = some (vI (sRecall m a p z).1) ∧ Cp (sRecall m a p z).2 h' ∧ mo h' = mo h) := by
  have hs := hc.s
  have hKb := hw.k.2
  have hTb := hw.t.2
  have hFb := hw.f.2
  have hRb := hw.r.2
  have hGb := hw.g.2
  have hAb := hw.a.2
  have hTlb := hw.tl.2
  have hNwb := hw.w.2
  refine Call.enter hok (by decide) (Nat.le_of_ble_eq_true rfl) ?_
  show G E m_X11_recall 5 3 26 _ h 0 [some (vR TH), some (vI a), some (vI p), some (vI z), none, none] [] h 0 0
  refine g_iload_n (pc' := 1) dX11_recall_0 rfl rfl ?_
  refine g_iconstN (n := 0) (pc' := 2) dX11_recall_1 rfl ?_
  refine g_iconstN (n := 5) (pc' := 3) dX11_recall_2 rfl ?_
  refine g_invS (pc' := 6) (cx_within hok _ _ _) dX11_recall_3 rfl ml_X11_99 st_X11_within in_X11 co_X11_within pd_X11_within rfl (by omega) (by decide) ⟨by decide, by decide⟩ (Nat.le_of_ble_eq_true rfl) ?_
  rintro _ _ ⟨rfl, rfl⟩ -
  refine g_ifB_eq (tgt := 33) (pc' := 9) dX11_recall_6 rfl (by decide) (fun c6 => ?_) (fun c6 => ?_)
  ·
    refine g_iconstN (n := 0) (pc' := 34) dX11_recall_33 rfl ?_
    refine g_istore (pc' := 36) dX11_recall_34 rfl (by decide) rfl ?_
    try simp only [List.set]
    refine g_iload (pc' := 38) dX11_recall_36 rfl rfl ?_
    refine g_if_eqN (tgt := 53) (pc' := 41) dX11_recall_38 rfl (by decide) (by decide) (fun _ => ?_) (fun q => False.elim (by revert q; decide))
    refine g_iconst (v := -1) (pc' := 54) dX11_recall_53 rfl (by decide) ?_
    refine g_iret dX11_recall_54 rfl (by decide) (by decide) ?_
    have e : sRecall m a p z = (-1, m) := cif_f (fun z => c6 z.2.1)
    rw [e]
    exact ⟨rfl, hc, rfl⟩
  ·
    refine g_iload_n (pc' := 10) dX11_recall_9 rfl rfl ?_
    refine g_iconstN (n := 0) (pc' := 11) dX11_recall_10 rfl ?_
    refine g_bipushN (n := 99) (pc' := 13) dX11_recall_11 rfl (by decide) ?_
    refine g_invS (pc' := 16) (cx_within hok _ _ _) dX11_recall_13 rfl ml_X11_99 st_X11_within in_X11 co_X11_within pd_X11_within rfl (by omega) (by decide) ⟨by decide, by decide⟩ (Nat.le_of_ble_eq_true rfl) ?_
    rintro _ _ ⟨rfl, rfl⟩ -
    refine g_ifB_eq (tgt := 33) (pc' := 19) dX11_recall_16 rfl (by decide) (fun c16 => ?_) (fun c16 => ?_)
    ·
      refine g_iconstN (n := 0) (pc' := 34) dX11_recall_33 rfl ?_
      refine g_istore (pc' := 36) dX11_recall_34 rfl (by decide) rfl ?_
      try simp only [List.set]
      refine g_iload (pc' := 38) dX11_recall_36 rfl rfl ?_
      refine g_if_eqN (tgt := 53) (pc' := 41) dX11_recall_38 rfl (by decide) (by decide) (fun _ => ?_) (fun q => False.elim (by revert q; decide))
      refine g_iconst (v := -1) (pc' := 54) dX11_recall_53 rfl (by decide) ?_
      refine g_iret dX11_recall_54 rfl (by decide) (by decide) ?_
      have e : sRecall m a p z = (-1, m) := cif_f (fun z => c16 z.2.2.1)
      rw [e]
      exact ⟨rfl, hc, rfl⟩
    ·
      refine g_iload_n (pc' := 20) dX11_recall_19 rfl rfl ?_
      refine g_iload_n (pc' := 21) dX11_recall_20 rfl rfl ?_
      refine g_bipushN (n := 99) (pc' := 23) dX11_recall_21 rfl (by decide) ?_
      refine g_invS (pc' := 26) (cx_within hok _ _ _) dX11_recall_23 rfl ml_X11_99 st_X11_within in_X11 co_X11_within pd_X11_within rfl (by omega) (by decide) ⟨by decide, by decide⟩ (Nat.le_of_ble_eq_true rfl) ?_
      rintro _ _ ⟨rfl, rfl⟩ -
      refine g_ifB_eq (tgt := 33) (pc' := 29) dX11_recall_26 rfl (by decide) (fun c26 => ?_) (fun c26 => ?_)
      ·
        refine g_iconstN (n := 0) (pc' := 34) dX11_recall_33 rfl ?_
        refine g_istore (pc' := 36) dX11_recall_34 rfl (by decide) rfl ?_
        try simp only [List.set]
        refine g_iload (pc' := 38) dX11_recall_36 rfl rfl ?_
        refine g_if_eqN (tgt := 53) (pc' := 41) dX11_recall_38 rfl (by decide) (by decide) (fun _ => ?_) (fun q => False.elim (by revert q; decide))
        refine g_iconst (v := -1) (pc' := 54) dX11_recall_53 rfl (by decide) ?_
        refine g_iret dX11_recall_54 rfl (by decide) (by decide) ?_
        have e : sRecall m a p z = (-1, m) := cif_f (fun z => c26 z.2.2.2)
        rw [e]
        exact ⟨rfl, hc, rfl⟩
      ·
        refine g_iconstN (n := 1) (pc' := 30) dX11_recall_29 rfl ?_
        refine g_goto (tgt := 34) dX11_recall_30 (by decide) ?_
        refine g_istore (pc' := 36) dX11_recall_34 rfl (by decide) rfl ?_
        try simp only [List.set]
        refine g_iload (pc' := 38) dX11_recall_36 rfl rfl ?_
        refine g_if_eqN (tgt := 53) (pc' := 41) dX11_recall_38 rfl (by decide) (by decide) (fun q => False.elim (by revert q; decide)) (fun _ => ?_)
        refine g_aload_n (pc' := 42) dX11_recall_41 rfl rfl ?_
        refine g_getS (pc' := 45) (k := 13) (b := (13, 3)) dX11_recall_42 rfl rfl ck_12 (by decide) fl_X11_41 rfl hs rfl ?_
        refine g_invV (pc' := 48) (ls_size hok hc.c9.1) dX11_recall_45 rfl rfl ck_0 rfl ml_X11_103 im_Jx4a65c_size_8abf5 sl_Jx4a65c_size_8abf5 in_Jx4a65c co_Jx4a65c_size_8abf5 pd_Jx4a65c_size_8abf5 rfl (by omega) (by decide) ⟨by decide, by decide⟩ (Nat.le_of_ble_eq_true rfl) ?_
        rintro _ _ ⟨rfl, rfl⟩ -
        refine g_bipushN (n := 10) (pc' := 50) dX11_recall_48 rfl (by decide) ?_
        refine g_icmp_ltN (tgt := 55) (pc' := 53) dX11_recall_50 rfl (by decide) (by omega) (by omega) (fun c50 => ?_) (fun c50 => ?_)
        ·
          refine g_new (5, nR m) (hc.c9.1.2.2.2.1 _ (Nat.le_refl _)) (pc' := 58) dX11_recall_55 rfl rfl ck_5 cl_X11_416 it_X4 in_X4 (by decide) (by decide) ?_
          refine g_dup (pc' := 59) dX11_recall_58 rfl rfl ?_
          refine g_iload_n (pc' := 60) dX11_recall_59 rfl rfl ?_
          refine g_iload_n (pc' := 61) dX11_recall_60 rfl rfl ?_
          refine g_iload_n (pc' := 62) dX11_recall_61 rfl rfl ?_
          refine g_aload_n (pc' := 63) dX11_recall_62 rfl rfl ?_
          refine g_getIv (v := m 1 2) (pc' := 66) (k := 0) dX11_recall_63 rfl rfl ck_12 (by decide) fl_X11_95 rfl (hc.c1.1) ?_
          refine g_invI (pc' := 69) (cx_recallInit hok (r := nR m) (by exact hc.c9.2.2 _ (Nat.le_refl _)) _ _ _ _) dX11_recall_66 rfl ml_X11_418 im_X4_init in_X4 co_X4_init rfl rfl pd_X4_init rfl (by omega) (by decide) ⟨by decide, by decide⟩ (Nat.le_of_ble_eq_true rfl) ?_
          rintro _ _ ⟨rfl, rfl⟩ -
          obtain ⟨xs, xw, x5, x6, xa, xp, xz⟩ := re_mid (a := a) (p := p) (z := z) hc hw (by omega)
          refine g_astore (pc' := 71) dX11_recall_69 rfl (by decide) rfl ?_
          try simp only [List.set]
          refine g_aload (pc' := 73) dX11_recall_71 rfl rfl ?_
          refine g_aload_n (pc' := 74) dX11_recall_73 rfl rfl ?_
          refine g_aload (pc' := 76) dX11_recall_74 rfl rfl ?_
          refine g_invV (pc' := 79) (cx_holders0 hok xs xw x5 x6 xa xp xz) dX11_recall_76 rfl rfl ck_12 rfl ml_X11_419 im_X11_holdersNow sl_X11_holdersNow in_X11 co_X11_holdersNow pd_X11_holdersNow rfl (by omega) (by decide) ⟨by decide, by decide⟩ (Nat.le_of_ble_eq_true rfl) ?_
          rintro _ _ ⟨rfl, rfl⟩ -
          refine g_putI (pc' := 82) (k := 5) dX11_recall_79 rfl rfl ck_5 (by decide) fl_X11_423 rfl rfl rfl rfl ?_
          refine g_aload_n (pc' := 83) dX11_recall_82 rfl rfl ?_
          refine G.live (fun hTH => ?_)
          refine g_getR (pc' := 86) (k := 13) (r := some (13, 3)) dX11_recall_83 rfl rfl ck_12 (by decide) fl_X11_41 rfl (hc.s 0 13 0 _ rfl hTH) ?_
          refine g_aload (pc' := 88) dX11_recall_86 rfl rfl ?_
          have lX : LsA (wI (reH (nH h (5, nR m)) (nR m) a p z (m 1 2)) (5, nR m) 5 (hadN (st4 m a p z) (nR m))) 3 (nR m) 5 := hc.c9.1.a.nk (re2_fr h (nR m) a p z (m 1 2) _) (by decide)
          rcases (show (nR m) = 0 ∨ 0 < (nR m) by omega) with e0 | e1
          ·
            refine g_invV (pc' := 91) (li_first hok (i := 3) (v := (5, nR m)) rfl (by exact hc.e.1) (by exact lX.2.2.2.1 e0) (by exact lX.2.1.trans (by rw [e0]; exact congrArg some (dN_0 3))) (by exact lX.1.trans (by rw [e0])) rfl ck_5 wd_recc) dX11_recall_88 rfl rfl ck_0 rfl ml_X11_112 im_Jx4a65c_add_9ea2d sl_Jx4a65c_add_9ea2d in_Jx4a65c co_Jx4a65c_add_9ea2d pd_Jx4a65c_add_9ea2d rfl (by omega) (by decide) ⟨by decide, by decide⟩ (Nat.le_of_ble_eq_true rfl) ?_
            rintro _ h2 ⟨rfl, e2⟩ -
            obtain ⟨l2, f2⟩ : LsA h2 3 (nR m + 1) 5 ∧ Fr (SK 3 [] 0) (wI (reH (nH h (5, nR m)) (nR m) a p z (m 1 2)) (5, nR m) 5 (hadN (st4 m a p z) (nR m))) h2 := by rw [← e2]; exact first_post lX e0
            clear e2
            refine g_pop (pc' := 92) dX11_recall_91 rfl rfl ?_
            refine g_aload_n (pc' := 93) dX11_recall_92 rfl rfl ?_
            refine G.live (fun hTH => ?_)
            refine g_getR (pc' := 96) (k := 13) (r := some (13, 3)) dX11_recall_93 rfl rfl ck_12 (by decide) fl_X11_41 rfl (((congrFun (f2 TH (nS (Or.inl (by decide)) (Or.inl (by decide)) (Or.inl (by simp)))).2.1 13).trans (hc.s 0 13 0 _ rfl ((f2 TH (nS (Or.inl (by decide)) (Or.inl (by decide)) (Or.inl (by simp)))).2.2.symm.trans hTH)))) ?_
            refine g_invV (pc' := 99) (ls_sizeV hok (n := nR m + 1) (by exact l2.1)) dX11_recall_96 rfl rfl ck_0 rfl ml_X11_103 im_Jx4a65c_size_8abf5 sl_Jx4a65c_size_8abf5 in_Jx4a65c co_Jx4a65c_size_8abf5 pd_Jx4a65c_size_8abf5 rfl (by omega) (by decide) ⟨by decide, by decide⟩ (Nat.le_of_ble_eq_true rfl) ?_
            rintro _ _ ⟨rfl, rfl⟩ -
            refine g_iconstN (n := 1) (pc' := 100) dX11_recall_99 rfl ?_
            refine g_isubN (pc' := 101) dX11_recall_100 rfl (by omega) ?_
            refine g_iret dX11_recall_101 rfl (by decide) (by decide) ?_
            have e : sRecall m a p z = (nI (nR m), stU (stU (st4 m a p z) 165 (nR m) (hadN (st4 m a p z) (nR m))) 1 59 (nI (nR m + 1))) := cif_t ⟨by omega, c6, c16, c26⟩
            rw [e]
            exact rec_end hc hw hx (by omega) l2 f2
          ·
            have eD : dN 3 (nR m) = (61, 3) := dN_1 (by omega) (by omega)
            refine g_invV (pc' := 91) (li_add hok (i := 3) (n := (nR m)) (v := (5, nR m)) (N := 10) (D := (61, 3)) (by exact lX.2.1.trans (congrArg some eD)) rfl (by decide) (by omega) (by exact lX.1) rfl ck_5 wd_recc) dX11_recall_88 rfl rfl ck_0 rfl ml_X11_112 im_Jx4a65c_add_9ea2d sl_Jx4a65c_add_9ea2d in_Jx4a65c co_Jx4a65c_add_9ea2d pd_Jx4a65c_add_9ea2d rfl (by omega) (by decide) ⟨by decide, by decide⟩ (Nat.le_of_ble_eq_true rfl) ?_
            rintro _ h2 ⟨rfl, e2⟩ -
            obtain ⟨l2, f2⟩ : LsA h2 3 (nR m + 1) 5 ∧ Fr (SK 3 [] 0) (wI (reH (nH h (5, nR m)) (nR m) a p z (m 1 2)) (5, nR m) 5 (hadN (st4 m a p z) (nR m))) h2 := by rw [← e2]; exact add_post (N := 10) lX (by omega) eD (dN_1 (by omega) (by omega)) (Or.inl rfl) (by omega)
            clear e2
            refine g_pop (pc' := 92) dX11_recall_91 rfl rfl ?_
            refine g_aload_n (pc' := 93) dX11_recall_92 rfl rfl ?_
            refine G.live (fun hTH => ?_)
            refine g_getR (pc' := 96) (k := 13) (r := some (13, 3)) dX11_recall_93 rfl rfl ck_12 (by decide) fl_X11_41 rfl (((congrFun (f2 TH (nS (Or.inl (by decide)) (Or.inl (by decide)) (Or.inl (by simp)))).2.1 13).trans (hc.s 0 13 0 _ rfl ((f2 TH (nS (Or.inl (by decide)) (Or.inl (by decide)) (Or.inl (by simp)))).2.2.symm.trans hTH)))) ?_
            refine g_invV (pc' := 99) (ls_sizeV hok (n := nR m + 1) (by exact l2.1)) dX11_recall_96 rfl rfl ck_0 rfl ml_X11_103 im_Jx4a65c_size_8abf5 sl_Jx4a65c_size_8abf5 in_Jx4a65c co_Jx4a65c_size_8abf5 pd_Jx4a65c_size_8abf5 rfl (by omega) (by decide) ⟨by decide, by decide⟩ (Nat.le_of_ble_eq_true rfl) ?_
            rintro _ _ ⟨rfl, rfl⟩ -
            refine g_iconstN (n := 1) (pc' := 100) dX11_recall_99 rfl ?_
            refine g_isubN (pc' := 101) dX11_recall_100 rfl (by omega) ?_
            refine g_iret dX11_recall_101 rfl (by decide) (by decide) ?_
            have e : sRecall m a p z = (nI (nR m), stU (stU (st4 m a p z) 165 (nR m) (hadN (st4 m a p z) (nR m))) 1 59 (nI (nR m + 1))) := cif_t ⟨by omega, c6, c16, c26⟩
            rw [e]
            exact rec_end hc hw hx (by omega) l2 f2
        ·
          refine g_iconst (v := -1) (pc' := 54) dX11_recall_53 rfl (by decide) ?_
          refine g_iret dX11_recall_54 rfl (by decide) (by decide) ?_
          have e : sRecall m a p z = (-1, m) := cif_f (fun z => z.1 (by omega))
          rw [e]
          exact ⟨rfl, hc, rfl⟩
