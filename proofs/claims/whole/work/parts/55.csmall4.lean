/-! the tape -/
def atB (v : Int32) (k : Nat) : Int32 := (v.toUInt32 >>> ((nI k).toUInt32 &&& Int32.toUInt32 31)).toInt32 &&& nI 255
def atH (h : Hp) (v : Int32) (T : Nat) : Hp := wI (wI (wI (wI (wI (wI (wI (wI h (20, 0) T (atB v 24)) TH 4 (nI (T + 1))) (20, 0) (T + 1) (atB v 16)) TH 4 (nI (T + 1 + 1))) (20, 0) (T + 1 + 1) (atB v 8)) TH 4 (nI (T + 1 + 1 + 1))) (20, 0) (T + 1 + 1 + 1) (atB v 0)) TH 4 (nI (T + 1 + 1 + 1 + 1))
theorem at_at (h : Hp) (v : Int32) (T : Nat) : (atH h v T).1 TH 4 = nI (T + 4) := wI_same _ _ _ _
theorem bt_255 : ∀ j, j < 32 → bt (nI 255) j = decide (j < 8) := by decide +kernel
theorem nar8 (x : Int32) : x.toInt8.toInt32 &&& nI 255 = x &&& nI 255 := by
  refine bt_ext fun j hj => ?_
  rw [bt_and, bt_and, bt_255 j hj]
  by_cases q : j < 8
  · have e : bt x.toInt8.toInt32 j = bt x j := by
      show (x.toInt8.toInt32).toBitVec.getLsbD j = x.toBitVec.getLsbD j
      rw [Int8.toBitVec_toInt32, Int32.toBitVec_toInt8, BitVec.getLsbD_signExtend, if_pos q, BitVec.getLsbD_signExtend, if_pos hj, decide_eq_true hj, decide_eq_true q, Bool.true_and, Bool.true_and]
    rw [e]
  · rw [decide_eq_false q, Bool.and_false, Bool.and_false]
theorem shr255 (v : Int32) {k : Nat} (hk : k = 24 ∨ k = 16 ∨ k = 8 ∨ k = 0) : (v >>> (nI k &&& 31)) &&& nI 255 = atB v k := by
  have hk' : k ≤ 24 := by omega
  have e1 : ((v.toUInt32 >>> ((nI k).toUInt32 &&& Int32.toUInt32 31)).toInt32).toBitVec = v.toBitVec >>> k := by
    rcases hk with rfl | rfl | rfl | rfl <;> rfl
  unfold atB
  refine bt_ext fun j hj => ?_
  rw [bt_and, bt_and, bt_255 j hj]
  by_cases q : j < 8
  · have a : bt (v >>> (nI k &&& 31)) j = bt v (k + j) := by
      show (v >>> (nI k &&& 31)).toBitVec.getLsbD j = _
      rw [sar_bt v (by omega), BitVec.getLsbD_sshiftRight]
      have z : k + j < 32 := by omega
      rw [if_pos z, decide_eq_false (show ¬ 32 ≤ j by omega)]
      rfl
    have b : bt ((v.toUInt32 >>> ((nI k).toUInt32 &&& Int32.toUInt32 31)).toInt32) j = bt v (k + j) := by
      show ((v.toUInt32 >>> ((nI k).toUInt32 &&& Int32.toUInt32 31)).toInt32).toBitVec.getLsbD j = _
      rw [e1, BitVec.getLsbD_ushiftRight]
      rfl
    rw [a, b]
  · rw [decide_eq_false q, Bool.and_false, Bool.and_false]
theorem pb_at (v : Int32) {k : Nat} (hk : k = 24 ∨ k = 16 ∨ k = 8 ∨ k = 0) : pb v k &&& nI 255 = atB v k := by
  have e : ∀ y : Int32, vp_nar .byte y = y.toInt8.toInt32 := fun y => rfl
  unfold pb
  rw [e, nar8, nar8, shr255 v hk]
theorem C2_w {m : St} {h : Hp} (c : C2 m h) (i : Nat) {x y : Int32} (e : y &&& nI 255 = x) : C2 (stU m 100 i y) (wI h (20, 0) i x) := fun j hj => by
  rw [wI_at, stU_at]
  by_cases z : j = i
  · rw [if_pos ⟨rfl, z⟩, if_pos ⟨rfl, z⟩, e]
  · rw [if_neg (fun q => z q.2), if_neg (fun q => z q.2)]
    exact c j hj
theorem Cp.at1 {m : St} {h : Hp} (hc : Cp m h) (T : Nat) (n : Int32) {x y : Int32} (e : y &&& nI 255 = x) : Cp (stU (stU m 100 T y) 1 1 n) (wI (wI h (20, 0) T x) TH 4 n) := ⟨hc.s, hc.e, ⟨hc.c1.1, hc.c1.2.1, hc.c1.2.2.1, hc.c1.2.2.2.1, rfl⟩, C2_w hc.c2 T e, hc.c3, hc.c4, hc.c5, hc.c6, hc.c7, hc.c8, hc.c9, hc.c10, C11.same hc.c11 rfl rfl rfl rfl rfl rfl (fun _ => rfl) rfl, hc.c12, hc.c13⟩
theorem Cp.at {m : St} {h : Hp} (hc : Cp m h) (v : Int32) (T : Nat) : Cp (pushS m v T) (atH h v T) :=
  (((hc.at1 T (nI (T + 1)) (pb_at v (by decide))).at1 (T + 1) (nI (T + 1 + 1)) (pb_at v (by decide))).at1 (T + 1 + 1) (nI (T + 1 + 1 + 1)) (pb_at v (by decide))).at1 (T + 1 + 1 + 1) (nI (T + 1 + 1 + 1 + 1)) (pb_at v (by decide))
theorem mo_at (h : Hp) (v : Int32) (T : Nat) : mo (atH h v T) = mo h := by
  unfold atH
  rw [mo_off (a := TH) rfl, mo_off (a := (20, 0)) rfl, mo_off (a := TH) rfl, mo_off (a := (20, 0)) rfl, mo_off (a := TH) rfl, mo_off (a := (20, 0)) rfl, mo_off (a := TH) rfl, mo_off (a := (20, 0)) rfl]
set_option maxRecDepth 4000 in
theorem cx_addToTape {E : En} (hok : EOK E) {h : Hp} (hs : Shp h.2) {T : Nat} (hT0 : h.1 TH 4 = nI T) (hTb : T + 4 ≤ 220) (v : Int32) : Fm E m_X11_addToTape 0 [vR TH, vI v] h none (atH h v T) := by
  refine Call.enter hok (by decide) (Nat.le_of_ble_eq_true rfl) ?_
  show G E m_X11_addToTape 0 0 0 _ h 0 [some (vR TH), some (vI v), none] [] h 0 0
  refine g_bipushN (n := 24) (pc' := 2) dX11_addToTape_0 rfl (by decide) ?_
  refine g_istore_n (pc' := 3) dX11_addToTape_2 rfl (by decide) rfl ?_
  try simp only [List.set]
  refine g_iload_n (pc' := 4) dX11_addToTape_3 rfl rfl ?_
  refine g_if_lt (tgt := 49) (pc' := 7) dX11_addToTape_4 rfl (by decide) (fun q => absurd q (by decide)) (fun _ => ?_)
  refine g_aload_n (pc' := 8) dX11_addToTape_7 rfl rfl ?_
  refine g_getIv (v := nI (T)) (pc' := 11) (k := 4) dX11_addToTape_8 rfl rfl ck_12 (by decide) fl_X11_165 rfl (hT0) ?_
  refine g_sipushN (n := 220) (pc' := 14) dX11_addToTape_11 rfl (by decide) ?_
  refine g_icmp_geN (tgt := 49) (pc' := 17) dX11_addToTape_14 rfl (by decide) (by omega) (by omega) (fun c14 => ?_) (fun c14 => ?_)
  · exact absurd c14 (by omega)
  ·
    refine g_aload_n (pc' := 18) dX11_addToTape_17 rfl rfl ?_
    refine g_getS (pc' := 21) (k := 6) (b := (20, 0)) dX11_addToTape_18 rfl rfl ck_12 (by decide) fl_X11_9 rfl hs rfl ?_
    refine g_aload_n (pc' := 22) dX11_addToTape_21 rfl rfl ?_
    refine g_getIv (v := nI (T)) (pc' := 25) (k := 4) dX11_addToTape_22 rfl rfl ck_12 (by decide) fl_X11_165 rfl (hT0) ?_
    refine g_iload_n (pc' := 26) dX11_addToTape_25 rfl rfl ?_
    refine g_iload_n (pc' := 27) dX11_addToTape_26 rfl rfl ?_
    refine g_iushr (pc' := 28) dX11_addToTape_27 rfl rfl ?_
    refine g_sipushN (n := 255) (pc' := 31) dX11_addToTape_28 rfl (by decide) ?_
    refine g_iand (pc' := 32) dX11_addToTape_31 rfl ?_
    refine g_iastN (pc' := 33) dX11_addToTape_32 rfl rfl (by decide) (by omega) ?_
    refine g_aload_n (pc' := 34) dX11_addToTape_33 rfl rfl ?_
    refine g_dup (pc' := 35) dX11_addToTape_34 rfl rfl ?_
    refine g_getIv (v := nI (T)) (pc' := 38) (k := 4) dX11_addToTape_35 rfl rfl ck_12 (by decide) fl_X11_165 rfl ((congrFun (wI_off _ _ _ _ TH (by decide)) 4).trans (hT0)) ?_
    refine g_iconstN (n := 1) (pc' := 39) dX11_addToTape_38 rfl ?_
    refine g_iaddN (pc' := 40) dX11_addToTape_39 rfl ?_
    refine g_putI (pc' := 43) (k := 4) dX11_addToTape_40 rfl rfl ck_12 (by decide) fl_X11_165 rfl rfl rfl rfl ?_
    refine g_iinc (v := nI 16) (pc' := 46) dX11_addToTape_43 rfl rfl (by decide) (by decide) rfl ?_
    try simp only [List.set]
    refine g_goto (tgt := 3) dX11_addToTape_46 (by decide) ?_
    refine g_iload_n (pc' := 4) dX11_addToTape_3 rfl rfl ?_
    refine g_if_lt (tgt := 49) (pc' := 7) dX11_addToTape_4 rfl (by decide) (fun q => absurd q (by decide)) (fun _ => ?_)
    refine g_aload_n (pc' := 8) dX11_addToTape_7 rfl rfl ?_
    refine g_getIv (v := nI (T + 1)) (pc' := 11) (k := 4) dX11_addToTape_8 rfl rfl ck_12 (by decide) fl_X11_165 rfl (wI_same _ _ _ _) ?_
    refine g_sipushN (n := 220) (pc' := 14) dX11_addToTape_11 rfl (by decide) ?_
    refine g_icmp_geN (tgt := 49) (pc' := 17) dX11_addToTape_14 rfl (by decide) (by omega) (by omega) (fun c14 => ?_) (fun c14 => ?_)
    · exact absurd c14 (by omega)
    ·
      refine g_aload_n (pc' := 18) dX11_addToTape_17 rfl rfl ?_
      refine g_getS (pc' := 21) (k := 6) (b := (20, 0)) dX11_addToTape_18 rfl rfl ck_12 (by decide) fl_X11_9 rfl hs rfl ?_
      refine g_aload_n (pc' := 22) dX11_addToTape_21 rfl rfl ?_
      refine g_getIv (v := nI (T + 1)) (pc' := 25) (k := 4) dX11_addToTape_22 rfl rfl ck_12 (by decide) fl_X11_165 rfl (wI_same _ _ _ _) ?_
      refine g_iload_n (pc' := 26) dX11_addToTape_25 rfl rfl ?_
      refine g_iload_n (pc' := 27) dX11_addToTape_26 rfl rfl ?_
      refine g_iushr (pc' := 28) dX11_addToTape_27 rfl rfl ?_
      refine g_sipushN (n := 255) (pc' := 31) dX11_addToTape_28 rfl (by decide) ?_
      refine g_iand (pc' := 32) dX11_addToTape_31 rfl ?_
      refine g_iastN (pc' := 33) dX11_addToTape_32 rfl rfl (by decide) (by omega) ?_
      refine g_aload_n (pc' := 34) dX11_addToTape_33 rfl rfl ?_
      refine g_dup (pc' := 35) dX11_addToTape_34 rfl rfl ?_
      refine g_getIv (v := nI (T + 1)) (pc' := 38) (k := 4) dX11_addToTape_35 rfl rfl ck_12 (by decide) fl_X11_165 rfl ((congrFun (wI_off _ _ _ _ TH (by decide)) 4).trans (wI_same _ _ _ _)) ?_
      refine g_iconstN (n := 1) (pc' := 39) dX11_addToTape_38 rfl ?_
      refine g_iaddN (pc' := 40) dX11_addToTape_39 rfl ?_
      refine g_putI (pc' := 43) (k := 4) dX11_addToTape_40 rfl rfl ck_12 (by decide) fl_X11_165 rfl rfl rfl rfl ?_
      refine g_iinc (v := nI 8) (pc' := 46) dX11_addToTape_43 rfl rfl (by decide) (by decide) rfl ?_
      try simp only [List.set]
      refine g_goto (tgt := 3) dX11_addToTape_46 (by decide) ?_
      refine g_iload_n (pc' := 4) dX11_addToTape_3 rfl rfl ?_
      refine g_if_lt (tgt := 49) (pc' := 7) dX11_addToTape_4 rfl (by decide) (fun q => absurd q (by decide)) (fun _ => ?_)
      refine g_aload_n (pc' := 8) dX11_addToTape_7 rfl rfl ?_
      refine g_getIv (v := nI (T + 1 + 1)) (pc' := 11) (k := 4) dX11_addToTape_8 rfl rfl ck_12 (by decide) fl_X11_165 rfl (wI_same _ _ _ _) ?_
      refine g_sipushN (n := 220) (pc' := 14) dX11_addToTape_11 rfl (by decide) ?_
      refine g_icmp_geN (tgt := 49) (pc' := 17) dX11_addToTape_14 rfl (by decide) (by omega) (by omega) (fun c14 => ?_) (fun c14 => ?_)
      · exact absurd c14 (by omega)
      ·
        refine g_aload_n (pc' := 18) dX11_addToTape_17 rfl rfl ?_
        refine g_getS (pc' := 21) (k := 6) (b := (20, 0)) dX11_addToTape_18 rfl rfl ck_12 (by decide) fl_X11_9 rfl hs rfl ?_
        refine g_aload_n (pc' := 22) dX11_addToTape_21 rfl rfl ?_
        refine g_getIv (v := nI (T + 1 + 1)) (pc' := 25) (k := 4) dX11_addToTape_22 rfl rfl ck_12 (by decide) fl_X11_165 rfl (wI_same _ _ _ _) ?_
        refine g_iload_n (pc' := 26) dX11_addToTape_25 rfl rfl ?_
        refine g_iload_n (pc' := 27) dX11_addToTape_26 rfl rfl ?_
        refine g_iushr (pc' := 28) dX11_addToTape_27 rfl rfl ?_
        refine g_sipushN (n := 255) (pc' := 31) dX11_addToTape_28 rfl (by decide) ?_
        refine g_iand (pc' := 32) dX11_addToTape_31 rfl ?_
        refine g_iastN (pc' := 33) dX11_addToTape_32 rfl rfl (by decide) (by omega) ?_
        refine g_aload_n (pc' := 34) dX11_addToTape_33 rfl rfl ?_
        refine g_dup (pc' := 35) dX11_addToTape_34 rfl rfl ?_
        refine g_getIv (v := nI (T + 1 + 1)) (pc' := 38) (k := 4) dX11_addToTape_35 rfl rfl ck_12 (by decide) fl_X11_165 rfl ((congrFun (wI_off _ _ _ _ TH (by decide)) 4).trans (wI_same _ _ _ _)) ?_
        refine g_iconstN (n := 1) (pc' := 39) dX11_addToTape_38 rfl ?_
        refine g_iaddN (pc' := 40) dX11_addToTape_39 rfl ?_
        refine g_putI (pc' := 43) (k := 4) dX11_addToTape_40 rfl rfl ck_12 (by decide) fl_X11_165 rfl rfl rfl rfl ?_
        refine g_iinc (v := nI 0) (pc' := 46) dX11_addToTape_43 rfl rfl (by decide) (by decide) rfl ?_
        try simp only [List.set]
        refine g_goto (tgt := 3) dX11_addToTape_46 (by decide) ?_
        refine g_iload_n (pc' := 4) dX11_addToTape_3 rfl rfl ?_
        refine g_if_lt (tgt := 49) (pc' := 7) dX11_addToTape_4 rfl (by decide) (fun q => absurd q (by decide)) (fun _ => ?_)
        refine g_aload_n (pc' := 8) dX11_addToTape_7 rfl rfl ?_
        refine g_getIv (v := nI (T + 1 + 1 + 1)) (pc' := 11) (k := 4) dX11_addToTape_8 rfl rfl ck_12 (by decide) fl_X11_165 rfl (wI_same _ _ _ _) ?_
        refine g_sipushN (n := 220) (pc' := 14) dX11_addToTape_11 rfl (by decide) ?_
        refine g_icmp_geN (tgt := 49) (pc' := 17) dX11_addToTape_14 rfl (by decide) (by omega) (by omega) (fun c14 => ?_) (fun c14 => ?_)
        · exact absurd c14 (by omega)
        ·
          refine g_aload_n (pc' := 18) dX11_addToTape_17 rfl rfl ?_
          refine g_getS (pc' := 21) (k := 6) (b := (20, 0)) dX11_addToTape_18 rfl rfl ck_12 (by decide) fl_X11_9 rfl hs rfl ?_
          refine g_aload_n (pc' := 22) dX11_addToTape_21 rfl rfl ?_
          refine g_getIv (v := nI (T + 1 + 1 + 1)) (pc' := 25) (k := 4) dX11_addToTape_22 rfl rfl ck_12 (by decide) fl_X11_165 rfl (wI_same _ _ _ _) ?_
          refine g_iload_n (pc' := 26) dX11_addToTape_25 rfl rfl ?_
          refine g_iload_n (pc' := 27) dX11_addToTape_26 rfl rfl ?_
          refine g_iushr (pc' := 28) dX11_addToTape_27 rfl rfl ?_
          refine g_sipushN (n := 255) (pc' := 31) dX11_addToTape_28 rfl (by decide) ?_
          refine g_iand (pc' := 32) dX11_addToTape_31 rfl ?_
          refine g_iastN (pc' := 33) dX11_addToTape_32 rfl rfl (by decide) (by omega) ?_
          refine g_aload_n (pc' := 34) dX11_addToTape_33 rfl rfl ?_
          refine g_dup (pc' := 35) dX11_addToTape_34 rfl rfl ?_
          refine g_getIv (v := nI (T + 1 + 1 + 1)) (pc' := 38) (k := 4) dX11_addToTape_35 rfl rfl ck_12 (by decide) fl_X11_165 rfl ((congrFun (wI_off _ _ _ _ TH (by decide)) 4).trans (wI_same _ _ _ _)) ?_
          refine g_iconstN (n := 1) (pc' := 39) dX11_addToTape_38 rfl ?_
          refine g_iaddN (pc' := 40) dX11_addToTape_39 rfl ?_
          refine g_putI (pc' := 43) (k := 4) dX11_addToTape_40 rfl rfl ck_12 (by decide) fl_X11_165 rfl rfl rfl rfl ?_
          refine g_iinc (v := -8) (pc' := 46) dX11_addToTape_43 rfl rfl (by decide) (by decide) rfl ?_
          try simp only [List.set]
          refine g_goto (tgt := 3) dX11_addToTape_46 (by decide) ?_
          refine g_iload_n (pc' := 4) dX11_addToTape_3 rfl rfl ?_
          refine g_if_lt (tgt := 49) (pc' := 7) dX11_addToTape_4 rfl (by decide) (fun _ => ?_) (fun q => absurd (by decide) q)
          refine g_vret dX11_addToTape_49 rfl (by decide) (by decide) ?_
          exact ⟨rfl, rfl⟩
set_option maxRecDepth 4000 in
theorem cx_feed {E : En} (hok : EOK E) {h : Hp} {m : St} (hc : Cp m h) (hw : Wf m) (a : Int32) (b : Int32) (c : Int32) (d : Int32) (e : Int32) : Call E m_X11_feed 1 0 0 [vR TH, vI a, vI b, vI c, vI d, vI e] h (fun r h' => r = some (vI (sFeed m a b c d e).1) ∧ Cp (sFeed m a b c d e).2 h' ∧ mo h' = mo h) := by
  have hs := hc.s
  have hKb := hw.k.2
  have hTb := hw.t.2
  have hFb := hw.f.2
  have hRb := hw.r.2
  have hGb := hw.g.2
  have hAb := hw.a.2
  have hTlb := hw.tl.2
  have hNwb := hw.w.2
  refine Call.enter hok (by decide) (Nat.le_of_ble_eq_true rfl) ?_
  show G E m_X11_feed 1 0 0 _ h 0 [some (vR TH), some (vI a), some (vI b), some (vI c), some (vI d), some (vI e)] [] h 0 0
  refine g_aload_n (pc' := 1) dX11_feed_0 rfl rfl ?_
  refine g_getIv (v := nI (nTl m)) (pc' := 4) (k := 4) dX11_feed_1 rfl rfl ck_12 (by decide) fl_X11_165 rfl (hc.c1.2.2.2.2.trans hw.tl.1) ?_
  refine g_bipushN (n := 20) (pc' := 6) dX11_feed_4 rfl (by decide) ?_
  refine g_iaddN (pc' := 7) dX11_feed_6 rfl ?_
  refine g_sipushN (n := 220) (pc' := 10) dX11_feed_7 rfl (by decide) ?_
  refine g_icmp_leN (tgt := 15) (pc' := 13) dX11_feed_10 rfl (by decide) (by omega) (by omega) (fun c10 => ?_) (fun c10 => ?_)
  ·
    refine g_aload_n (pc' := 16) dX11_feed_15 rfl rfl ?_
    refine g_iload_n (pc' := 17) dX11_feed_16 rfl rfl ?_
    refine g_invV (pc' := 20) (cx_addToTape (h := h) hok hs (T := nTl m) (hc.c1.2.2.2.2.trans hw.tl.1) (by omega) _) dX11_feed_17 rfl rfl ck_12 rfl ml_X11_168 im_X11_addToTape sl_X11_addToTape in_X11 co_X11_addToTape pd_X11_addToTape rfl (by omega) (by decide) ⟨by decide, by decide⟩ (Nat.le_of_ble_eq_true rfl) ?_
    rintro _ _ ⟨rfl, rfl⟩ -
    refine g_aload_n (pc' := 21) dX11_feed_20 rfl rfl ?_
    refine g_iload_n (pc' := 22) dX11_feed_21 rfl rfl ?_
    refine g_invV (pc' := 25) (cx_addToTape (h := atH (h) a (nTl m)) hok hs (T := nTl m + 4) (at_at _ _ _) (by omega) _) dX11_feed_22 rfl rfl ck_12 rfl ml_X11_168 im_X11_addToTape sl_X11_addToTape in_X11 co_X11_addToTape pd_X11_addToTape rfl (by omega) (by decide) ⟨by decide, by decide⟩ (Nat.le_of_ble_eq_true rfl) ?_
    rintro _ _ ⟨rfl, rfl⟩ -
    refine g_aload_n (pc' := 26) dX11_feed_25 rfl rfl ?_
    refine g_iload_n (pc' := 27) dX11_feed_26 rfl rfl ?_
    refine g_invV (pc' := 30) (cx_addToTape (h := atH (atH (h) a (nTl m)) b (nTl m + 4)) hok hs (T := nTl m + 8) (at_at _ _ _) (by omega) _) dX11_feed_27 rfl rfl ck_12 rfl ml_X11_168 im_X11_addToTape sl_X11_addToTape in_X11 co_X11_addToTape pd_X11_addToTape rfl (by omega) (by decide) ⟨by decide, by decide⟩ (Nat.le_of_ble_eq_true rfl) ?_
    rintro _ _ ⟨rfl, rfl⟩ -
    refine g_aload_n (pc' := 31) dX11_feed_30 rfl rfl ?_
    refine g_iload (pc' := 33) dX11_feed_31 rfl rfl ?_
    refine g_invV (pc' := 36) (cx_addToTape (h := atH (atH (atH (h) a (nTl m)) b (nTl m + 4)) c (nTl m + 8)) hok hs (T := nTl m + 12) (at_at _ _ _) (by omega) _) dX11_feed_33 rfl rfl ck_12 rfl ml_X11_168 im_X11_addToTape sl_X11_addToTape in_X11 co_X11_addToTape pd_X11_addToTape rfl (by omega) (by decide) ⟨by decide, by decide⟩ (Nat.le_of_ble_eq_true rfl) ?_
    rintro _ _ ⟨rfl, rfl⟩ -
    refine g_aload_n (pc' := 37) dX11_feed_36 rfl rfl ?_
    refine g_iload (pc' := 39) dX11_feed_37 rfl rfl ?_
    refine g_invV (pc' := 42) (cx_addToTape (h := atH (atH (atH (atH (h) a (nTl m)) b (nTl m + 4)) c (nTl m + 8)) d (nTl m + 12)) hok hs (T := nTl m + 16) (at_at _ _ _) (by omega) _) dX11_feed_39 rfl rfl ck_12 rfl ml_X11_168 im_X11_addToTape sl_X11_addToTape in_X11 co_X11_addToTape pd_X11_addToTape rfl (by omega) (by decide) ⟨by decide, by decide⟩ (Nat.le_of_ble_eq_true rfl) ?_
    rintro _ _ ⟨rfl, rfl⟩ -
    refine g_aload_n (pc' := 43) dX11_feed_42 rfl rfl ?_
    refine g_getIv (v := nI (nTl m + 16 + 4)) (pc' := 46) (k := 4) dX11_feed_43 rfl rfl ck_12 (by decide) fl_X11_165 rfl (at_at _ _ _) ?_
    refine g_iret dX11_feed_46 rfl (by decide) (by decide) ?_
    have e1 : sFeed m a b c d e = (nI (nTl m + 16 + 4), pushS (pushS (pushS (pushS (pushS (m) a (nTl m)) b (nTl m + 4)) c (nTl m + 8)) d (nTl m + 12)) e (nTl m + 16)) := cif_t (by omega)
    rw [e1]
    exact ⟨rfl, Cp.at (Cp.at (Cp.at (Cp.at (Cp.at (hc) a (nTl m)) b (nTl m + 4)) c (nTl m + 8)) d (nTl m + 12)) e (nTl m + 16), by rw [mo_at, mo_at, mo_at, mo_at, mo_at]⟩
  ·
    refine g_iconst (v := -1) (pc' := 14) dX11_feed_13 rfl (by decide) ?_
    refine g_iret dX11_feed_14 rfl (by decide) (by decide) ?_
    have e : sFeed m a b c d e = (-1, m) := cif_f (fun z => by omega)
    rw [e]
    exact ⟨rfl, hc, rfl⟩
def tmOK (m : St) (g n : Int32) : Prop := (0 ≤ g ∧ g ≤ 3) ∧ ((g = 0 → 0 ≤ n ∧ n ≤ 4) ∧ (g = nI 1 → ∃ j : Nat, j < nF m ∧ n = nI j) ∧ (g = nI 2 → 0 ≤ n ∧ n ≤ 699) ∧ (g = nI 3 → 0 ≤ n ∧ n ≤ 9))
set_option maxRecDepth 4000 in
theorem cx_isTerm {E : En} (hok : EOK E) {h : Hp} {m : St} (hc : Cp m h) (hw : Wf m) (g n : Int32) : Call E m_X11_isTerm 4 0 0 [vR TH, vI g, vI n] h (fun r0 h' => r0 = some (vI (bi (tmOK m g n))) ∧ h = h') := by
  have hs := hc.s
  have hKb := hw.k.2
  have hTb := hw.t.2
  have hFb := hw.f.2
  have hRb := hw.r.2
  have hGb := hw.g.2
  have hAb := hw.a.2
  have hTlb := hw.tl.2
  have hNwb := hw.w.2
  refine Call.enter hok (by decide) (Nat.le_of_ble_eq_true rfl) ?_
  show G E m_X11_isTerm 4 0 0 _ h 0 [some (vR TH), some (vI g), some (vI n)] [] h 0 0
  refine g_iload_n (pc' := 1) dX11_isTerm_0 rfl rfl ?_
  rcases Classical.em (g = nI 0) with rfl | w0
  ·
    refine g_tabIn (off := 31) (tgt := 32) dX11_isTerm_1 (by decide) (by decide) rfl (by decide) ?_
    refine g_iload_n (pc' := 33) dX11_isTerm_32 rfl rfl ?_
    refine g_iconstN (n := 0) (pc' := 34) dX11_isTerm_33 rfl ?_
    refine g_iconstN (n := 4) (pc' := 35) dX11_isTerm_34 rfl ?_
    refine g_invS (pc' := 38) (cx_within hok _ _ _) dX11_isTerm_35 rfl ml_X11_99 st_X11_within in_X11 co_X11_within pd_X11_within rfl (by omega) (by decide) ⟨by decide, by decide⟩ (Nat.le_of_ble_eq_true rfl) ?_
    rintro _ _ ⟨rfl, rfl⟩ -
    refine g_zret dX11_isTerm_38 rfl (nbB) (by decide) (by decide) ?_
    exact ⟨congrArg (fun z : Int32 => some (vI z)) (bi_of ⟨fun q => ⟨by decide, fun _ => q, fun z => absurd z (by decide), fun z => absurd z (by decide), fun z => absurd z (by decide)⟩, fun q => q.2.1 rfl⟩), rfl⟩
  rcases Classical.em (g = nI 1) with rfl | w1
  ·
    refine g_tabIn (off := 38) (tgt := 39) dX11_isTerm_1 (by decide) (by decide) rfl (by decide) ?_
    refine g_aload_n (pc' := 40) dX11_isTerm_39 rfl rfl ?_
    refine g_iload_n (pc' := 41) dX11_isTerm_40 rfl rfl ?_
    rcases Classical.em (∃ j : Nat, j < nF m ∧ n = nI j) with w41 | w41
    ·
      have k41 := w41
      obtain ⟨f, hf, rfl⟩ := k41
      refine g_invV (pc' := 44) (cx_familyAt hok hc hw hf) dX11_isTerm_41 rfl rfl ck_12 rfl ml_X11_192 im_X11_familyAt sl_X11_familyAt in_X11 co_X11_familyAt pd_X11_familyAt rfl (by omega) (by decide) ⟨by decide, by decide⟩ (Nat.le_of_ble_eq_true rfl) ?_
      rintro _ _ ⟨rfl, rfl⟩ -
      refine g_ifnull (pc' := 47) dX11_isTerm_44 rfl ?_
      refine g_iconstN (n := 1) (pc' := 48) dX11_isTerm_47 rfl ?_
      refine g_goto (tgt := 52) dX11_isTerm_48 (by decide) ?_
      refine g_zret dX11_isTerm_52 rfl (by rfl) (by decide) (by decide) ?_
      exact ⟨congrArg (fun z : Int32 => some (vI z)) ((bi_t (P := tmOK m (nI 1) (nI f)) ⟨by decide, fun z => absurd z (by decide), fun _ => w41, fun z => absurd z (by decide), fun z => absurd z (by decide)⟩).symm), rfl⟩
    ·
      refine g_invV (pc' := 44) (cx_familyAtN hok hc hw w41) dX11_isTerm_41 rfl rfl ck_12 rfl ml_X11_192 im_X11_familyAt sl_X11_familyAt in_X11 co_X11_familyAt pd_X11_familyAt rfl (by omega) (by decide) ⟨by decide, by decide⟩ (Nat.le_of_ble_eq_true rfl) ?_
      rintro _ _ ⟨rfl, rfl⟩ -
      refine g_ifnullN (tgt := 51) dX11_isTerm_44 (by decide) ?_
      refine g_iconstN (n := 0) (pc' := 52) dX11_isTerm_51 rfl ?_
      refine g_zret dX11_isTerm_52 rfl (by rfl) (by decide) (by decide) ?_
      exact ⟨congrArg (fun z : Int32 => some (vI z)) ((bi_f (P := tmOK m (nI 1) n) (fun q => w41 (q.2.2.1 rfl))).symm), rfl⟩
  rcases Classical.em (g = nI 2) with rfl | w2
  ·
    refine g_tabIn (off := 52) (tgt := 53) dX11_isTerm_1 (by decide) (by decide) rfl (by decide) ?_
    refine g_iload_n (pc' := 54) dX11_isTerm_53 rfl rfl ?_
    refine g_iconstN (n := 0) (pc' := 55) dX11_isTerm_54 rfl ?_
    refine g_sipushN (n := 699) (pc' := 58) dX11_isTerm_55 rfl (by decide) ?_
    refine g_invS (pc' := 61) (cx_within hok _ _ _) dX11_isTerm_58 rfl ml_X11_99 st_X11_within in_X11 co_X11_within pd_X11_within rfl (by omega) (by decide) ⟨by decide, by decide⟩ (Nat.le_of_ble_eq_true rfl) ?_
    rintro _ _ ⟨rfl, rfl⟩ -
    refine g_zret dX11_isTerm_61 rfl (nbB) (by decide) (by decide) ?_
    exact ⟨congrArg (fun z : Int32 => some (vI z)) (bi_of ⟨fun q => ⟨by decide, fun z => absurd z (by decide), fun z => absurd z (by decide), fun _ => q, fun z => absurd z (by decide)⟩, fun q => q.2.2.2.1 rfl⟩), rfl⟩
  rcases Classical.em (g = nI 3) with rfl | w3
  ·
    refine g_tabIn (off := 61) (tgt := 62) dX11_isTerm_1 (by decide) (by decide) rfl (by decide) ?_
    refine g_iload_n (pc' := 63) dX11_isTerm_62 rfl rfl ?_
    refine g_iconstN (n := 0) (pc' := 64) dX11_isTerm_63 rfl ?_
    refine g_bipushN (n := 9) (pc' := 66) dX11_isTerm_64 rfl (by decide) ?_
    refine g_invS (pc' := 69) (cx_within hok _ _ _) dX11_isTerm_66 rfl ml_X11_99 st_X11_within in_X11 co_X11_within pd_X11_within rfl (by omega) (by decide) ⟨by decide, by decide⟩ (Nat.le_of_ble_eq_true rfl) ?_
    rintro _ _ ⟨rfl, rfl⟩ -
    refine g_zret dX11_isTerm_69 rfl (nbB) (by decide) (by decide) ?_
    exact ⟨congrArg (fun z : Int32 => some (vI z)) (bi_of ⟨fun q => ⟨by decide, fun z => absurd z (by decide), fun z => absurd z (by decide), fun z => absurd z (by decide), fun _ => q⟩, fun q => q.2.2.2.2 rfl⟩), rfl⟩
  refine g_tabOut (tgt := 70) dX11_isTerm_1 (tab_out 3 (fun i hi => by rcases (show i = 0 ∨ i = 1 ∨ i = 2 ∨ i = 3 by omega) with rfl | rfl | rfl | rfl <;> assumption)) (by decide) ?_
  refine g_iconstN (n := 0) (pc' := 71) dX11_isTerm_70 rfl ?_
  refine g_zret dX11_isTerm_71 rfl (by rfl) (by decide) (by decide) ?_
  exact ⟨congrArg (fun z : Int32 => some (vI z)) ((bi_f (P := tmOK m g n) (fun q => by obtain ⟨j, hj, rfl⟩ := four_iff.mp q.1; rcases (show j = 0 ∨ j = 1 ∨ j = 2 ∨ j = 3 by omega) with rfl | rfl | rfl | rfl <;> contradiction)).symm), rfl⟩
def adH (h : Hp) (t c : Nat) (g n : Int32) : Hp := wI (wI (wI h (27, t) c g) (28, t) c n) (3, t) 6 (nI (c + 1))
set_option maxRecDepth 4000 in
theorem cx_addTerm {E : En} (hok : EOK E) {h : Hp} (hs : Shp h.2) {t c : Nat} (h6 : h.1 (3, t) 6 = nI c) (hc20 : c < 20) (g n : Int32) : Call E m_X8_addTerm 0 0 0 [vR (3, t), vI g, vI n] h (fun r h' => r = some (vI 1) ∧ adH h t c g n = h') := by
  refine Call.enter hok (by decide) (Nat.le_of_ble_eq_true rfl) ?_
  show G E m_X8_addTerm 0 0 0 _ h 0 [some (vR (3, t)), some (vI g), some (vI n)] [] h 0 0
  refine g_aload_n (pc' := 1) dX8_addTerm_0 rfl rfl ?_
  refine g_getIv (v := nI (c)) (pc' := 4) (k := 6) dX8_addTerm_1 rfl rfl ck_9 (by decide) fl_X8_54 rfl (h6) ?_
  refine g_bipushN (n := 20) (pc' := 6) dX8_addTerm_4 rfl (by decide) ?_
  refine g_icmp_ltN (tgt := 11) (pc' := 9) dX8_addTerm_6 rfl (by decide) (by omega) (by omega) (fun c6 => ?_) (fun c6 => ?_)
  ·
    refine g_aload_n (pc' := 12) dX8_addTerm_11 rfl rfl ?_
    refine g_getS (pc' := 15) (k := 4) (b := (27, t)) dX8_addTerm_12 rfl rfl ck_9 (by decide) fl_X8_36 rfl hs rfl ?_
    refine g_aload_n (pc' := 16) dX8_addTerm_15 rfl rfl ?_
    refine g_getIv (v := nI (c)) (pc' := 19) (k := 6) dX8_addTerm_16 rfl rfl ck_9 (by decide) fl_X8_54 rfl (h6) ?_
    refine g_iload_n (pc' := 20) dX8_addTerm_19 rfl rfl ?_
    refine g_iastN (pc' := 21) dX8_addTerm_20 rfl rfl (by decide) (by omega) ?_
    refine g_aload_n (pc' := 22) dX8_addTerm_21 rfl rfl ?_
    refine g_getS (pc' := 25) (k := 5) (b := (28, t)) dX8_addTerm_22 rfl rfl ck_9 (by decide) fl_X8_39 rfl hs rfl ?_
    refine g_aload_n (pc' := 26) dX8_addTerm_25 rfl rfl ?_
    refine g_getIv (v := nI (c)) (pc' := 29) (k := 6) dX8_addTerm_26 rfl rfl ck_9 (by decide) fl_X8_54 rfl (h6) ?_
    refine g_iload_n (pc' := 30) dX8_addTerm_29 rfl rfl ?_
    refine g_iastN (pc' := 31) dX8_addTerm_30 rfl rfl (by decide) (by omega) ?_
    refine g_aload_n (pc' := 32) dX8_addTerm_31 rfl rfl ?_
    refine g_dup (pc' := 33) dX8_addTerm_32 rfl rfl ?_
    refine g_getIv (v := nI (c)) (pc' := 36) (k := 6) dX8_addTerm_33 rfl rfl ck_9 (by decide) fl_X8_54 rfl (h6) ?_
    refine g_iconstN (n := 1) (pc' := 37) dX8_addTerm_36 rfl ?_
    refine g_iaddN (pc' := 38) dX8_addTerm_37 rfl ?_
    refine g_putI (pc' := 41) (k := 6) dX8_addTerm_38 rfl rfl ck_9 (by decide) fl_X8_54 rfl rfl rfl rfl ?_
    refine g_iconstN (n := 1) (pc' := 42) dX8_addTerm_41 rfl ?_
    refine g_zret dX8_addTerm_42 rfl (by rfl) (by decide) (by decide) ?_
    exact ⟨rfl, rfl⟩
  · exact absurd hc20 c6
theorem C7_gift {m : St} {h : Hp} (c : C7 m h) {t k : Nat} (hk : h.1 (3, t) 6 = nI k) (hkg : k ≤ nGf m) (hG : nGf m < 20) (hP : ∀ P : Int32 → Int32 → Prop, (∃ i, i < k ∧ P (h.1 (27, t) i) (h.1 (28, t) i)) ↔ ∃ g, g < nGf m ∧ m 167 g = nI t ∧ P (m 168 g) (m 169 g)) (ht : t < nT m) (hT : nT m ≤ 16) (g n : Int32) : C7 (stU (stU (stU (stU m 167 (nGf m) (nI t)) 168 (nGf m) g) 169 (nGf m) n) 1 60 (nI (nGf m + 1))) (adH h t k g n) := by
  have eG : nGf (stU (stU (stU (stU m 167 (nGf m) (nI t)) 168 (nGf m) g) 169 (nGf m) n) 1 60 (nI (nGf m + 1))) = nGf m + 1 := nI_clamp (by omega)
  have eT : nT (stU (stU (stU (stU m 167 (nGf m) (nI t)) 168 (nGf m) g) 169 (nGf m) n) 1 60 (nI (nGf m + 1))) = nT m := rfl
  have e167 : ∀ i, stU (stU (stU (stU m 167 (nGf m) (nI t)) 168 (nGf m) g) 169 (nGf m) n) 1 60 (nI (nGf m + 1)) 167 i = if i = nGf m then nI t else m 167 i := fun i => by
    show stU m 167 (nGf m) (nI t) 167 i = _
    rw [stU_at]; simp
  have e168 : ∀ i, stU (stU (stU (stU m 167 (nGf m) (nI t)) 168 (nGf m) g) 169 (nGf m) n) 1 60 (nI (nGf m + 1)) 168 i = if i = nGf m then g else m 168 i := fun i => by
    show stU (stU m 167 (nGf m) (nI t)) 168 (nGf m) g 168 i = _
    rw [stU_at]; simp; rfl
  have e169 : ∀ i, stU (stU (stU (stU m 167 (nGf m) (nI t)) 168 (nGf m) g) 169 (nGf m) n) 1 60 (nI (nGf m + 1)) 169 i = if i = nGf m then n else m 169 i := fun i => by
    show stU (stU (stU m 167 (nGf m) (nI t)) 168 (nGf m) g) 169 (nGf m) n 169 i = _
    rw [stU_at]; simp; rfl
  have h27 : ∀ u i, (adH h t k g n).1 (27, u) i = if u = t ∧ i = k then g else h.1 (27, u) i := fun u i => by
    unfold adH
    rw [wI_off _ _ _ _ (27, u) (ad_ne (show (27 : Nat) ≠ 3 by decide)), wI_off _ _ _ _ (27, u) (ad_ne (show (27 : Nat) ≠ 28 by decide)), wI_at]
    simp
  have h28 : ∀ u i, (adH h t k g n).1 (28, u) i = if u = t ∧ i = k then n else h.1 (28, u) i := fun u i => by
    unfold adH
    rw [wI_off _ _ _ _ (28, u) (ad_ne (show (28 : Nat) ≠ 3 by decide)), wI_at, wI_off _ _ _ _ (28, u) (ad_ne (show (28 : Nat) ≠ 27 by decide))]
    simp
  have h36 : ∀ u, (adH h t k g n).1 (3, u) 6 = if u = t then nI (k + 1) else h.1 (3, u) 6 := fun u => by
    unfold adH
    rw [wI_at, wI_off _ _ _ _ (3, u) (ad_ne (show (3 : Nat) ≠ 28 by decide)), wI_off _ _ _ _ (3, u) (ad_ne (show (3 : Nat) ≠ 27 by decide))]
    simp
  intro u hu
  rw [eT] at hu
  simp only [eG, e167, e168, e169, h27, h28, h36]
  by_cases z : u = t
  · subst z
    refine ⟨k + 1, by rw [if_pos rfl], by omega, fun P => ?_⟩
    constructor
    · rintro ⟨i, hi, q⟩
      by_cases y : i = k
      · subst y
        simp at q
        exact ⟨nGf m, Nat.lt_succ_self _, by simp, by simpa using q⟩
      · simp [y] at q
        obtain ⟨j, hj, q1, q2⟩ := (hP P).mp ⟨i, by omega, q⟩
        have ne : ¬ j = nGf m := by omega
        exact ⟨j, by omega, by simp [ne, q1], by simpa [ne] using q2⟩
    · rintro ⟨j, hj, q1, q2⟩
      by_cases y : j = nGf m
      · subst y
        simp at q2
        exact ⟨k, Nat.lt_succ_self _, by simpa using q2⟩
      · simp [y] at q1 q2
        obtain ⟨i, hi, q⟩ := (hP P).mpr ⟨j, by omega, q1, q2⟩
        have ne : ¬ i = k := by omega
        exact ⟨i, by omega, by simpa [ne] using q⟩
  · obtain ⟨k', a1, a2, a3⟩ := c u hu
    refine ⟨k', by rw [if_neg z]; exact a1, by omega, fun P => ?_⟩
    simp only [z, false_and, if_false]
    rw [a3 P]
    constructor
    · rintro ⟨j, hj, q1, q2⟩
      have ne : ¬ j = nGf m := by omega
      exact ⟨j, by omega, by simp [ne, q1], by simpa [ne] using q2⟩
    · rintro ⟨j, hj, q1, q2⟩
      by_cases y : j = nGf m
      · subst y
        simp at q1
        rw [nI_eq (by omega) (by omega)] at q1
        exact absurd q1.symm z
      · simp [y] at q1 q2
        exact ⟨j, by omega, q1, q2⟩
theorem C6_term {m : St} {h : Hp} (c : C6 m h) (t k : Nat) (g n : Int32) : C6 m (adH h t k g n) := by
  have e2 : (adH h t k g n).2 = h.2 := rfl
  refine ⟨c.1, fun u hu => ⟨(c.2.1 u hu).1, ?_, (c.2.1 u hu).2.2⟩, c.2.2⟩
  have a := (c.2.1 u hu).2.1
  have h3 : ∀ j, j ≠ 6 → (adH h t k g n).1 (3, u) j = h.1 (3, u) j := fun j hj => by
    unfold adH
    rw [wI_j hj, wI_off _ _ _ _ (3, u) (ad_ne (show (3 : Nat) ≠ 28 by decide)), wI_off _ _ _ _ (3, u) (ad_ne (show (3 : Nat) ≠ 27 by decide))]
  rw [h3 0 (by decide), h3 2 (by decide), h3 7 (by decide), h3 8 (by decide), h3 9 (by decide), h3 10 (by decide), h3 11 (by decide), h3 12 (by decide), h3 13 (by decide), h3 14 (by decide)]
  exact a
set_option maxRecDepth 4000 in
theorem cx_gift {E : En} (hok : EOK E) {h : Hp} {m : St} (hc : Cp m h) (hw : Wf m) (t0 : Int32) (g : Int32) (n : Int32) : Call E m_X11_gift 5 0 0 [vR TH, vI t0, vI g, vI n] h (fun r h' => r = some (vI (sGift m t0 g n).1) ∧ Cp (sGift m t0 g n).2 h' ∧ mo h' = mo h) := by
  have hs := hc.s
  have hKb := hw.k.2
  have hTb := hw.t.2
  have hFb := hw.f.2
  have hRb := hw.r.2
  have hGb := hw.g.2
  have hAb := hw.a.2
  have hTlb := hw.tl.2
  have hNwb := hw.w.2
  refine Call.enter hok (by decide) (Nat.le_of_ble_eq_true rfl) ?_
  show G E m_X11_gift 5 0 0 _ h 0 [some (vR TH), some (vI t0), some (vI g), some (vI n), none] [] h 0 0
  refine g_aload_n (pc' := 1) dX11_gift_0 rfl rfl ?_
  refine g_iload_n (pc' := 2) dX11_gift_1 rfl rfl ?_
  rcases Classical.em (∃ j : Nat, j < nT m ∧ t0 = nI j) with w2 | w2
  ·
    have k2 := w2
    obtain ⟨t, ht, rfl⟩ := k2
    refine g_invV (pc' := 5) (cx_toyAt hok hc hw ht) dX11_gift_2 rfl rfl ck_12 rfl ml_X11_151 im_X11_toyAt sl_X11_toyAt in_X11 co_X11_toyAt pd_X11_toyAt rfl (by omega) (by decide) ⟨by decide, by decide⟩ (Nat.le_of_ble_eq_true rfl) ?_
    rintro _ _ ⟨rfl, rfl⟩ -
    refine g_astore (pc' := 7) dX11_gift_5 rfl (by decide) rfl ?_
    try simp only [List.set]
    refine g_aload (pc' := 9) dX11_gift_7 rfl rfl ?_
    refine g_ifnull (pc' := 12) dX11_gift_9 rfl ?_
    refine g_aload_n (pc' := 13) dX11_gift_12 rfl rfl ?_
    refine g_getIv (v := nI (nGf m)) (pc' := 16) (k := 3) dX11_gift_13 rfl rfl ck_12 (by decide) fl_X11_155 rfl (hc.c1.2.2.2.1.trans hw.g.1) ?_
    refine g_bipushN (n := 20) (pc' := 18) dX11_gift_16 rfl (by decide) ?_
    refine g_icmp_geN (tgt := 30) (pc' := 21) dX11_gift_18 rfl (by decide) (by omega) (by omega) (fun c18 => ?_) (fun c18 => ?_)
    ·
      refine g_iconstN (n := 0) (pc' := 31) dX11_gift_30 rfl ?_
      refine g_zret dX11_gift_31 rfl (by rfl) (by decide) (by decide) ?_
      have e : sGift m (nI t) g n = (0, m) := cif_f (fun z => z.1 (by omega))
      rw [e]
      exact ⟨rfl, hc, rfl⟩
    ·
      refine g_aload_n (pc' := 22) dX11_gift_21 rfl rfl ?_
      refine g_iload_n (pc' := 23) dX11_gift_22 rfl rfl ?_
      refine g_iload_n (pc' := 24) dX11_gift_23 rfl rfl ?_
      refine g_invV (pc' := 27) (cx_isTerm hok hc hw g n) dX11_gift_24 rfl rfl ck_12 rfl ml_X11_158 im_X11_isTerm sl_X11_isTerm in_X11 co_X11_isTerm pd_X11_isTerm rfl (by omega) (by decide) ⟨by decide, by decide⟩ (Nat.le_of_ble_eq_true rfl) ?_
      rintro _ _ ⟨rfl, rfl⟩ -
      refine g_ifB_ne (tgt := 32) (pc' := 30) dX11_gift_27 rfl (by decide) (fun c27 => ?_) (fun c27 => ?_)
      ·
        obtain ⟨k6, hk6, hkg, hP6⟩ := hc.c7 t ht
        refine g_aload (pc' := 34) dX11_gift_32 rfl rfl ?_
        refine g_iload_n (pc' := 35) dX11_gift_34 rfl rfl ?_
        refine g_iload_n (pc' := 36) dX11_gift_35 rfl rfl ?_
        refine g_invV (pc' := 39) (cx_addTerm hok hs hk6 (by omega) g n) dX11_gift_36 rfl rfl ck_9 rfl ml_X11_162 im_X8_addTerm sl_X8_addTerm in_X8 co_X8_addTerm pd_X8_addTerm rfl (by omega) (by decide) ⟨by decide, by decide⟩ (Nat.le_of_ble_eq_true rfl) ?_
        rintro _ _ ⟨rfl, rfl⟩ -
        refine g_if_neN (tgt := 44) (pc' := 42) dX11_gift_39 rfl (by decide) (by decide) (fun _ => ?_) (fun q => False.elim (by revert q; decide))
        refine g_aload_n (pc' := 45) dX11_gift_44 rfl rfl ?_
        refine g_dup (pc' := 46) dX11_gift_45 rfl rfl ?_
        refine g_getIv (v := nI (nGf m)) (pc' := 49) (k := 3) dX11_gift_46 rfl rfl ck_12 (by decide) fl_X11_155 rfl (hc.c1.2.2.2.1.trans hw.g.1) ?_
        refine g_iconstN (n := 1) (pc' := 50) dX11_gift_49 rfl ?_
        refine g_iaddN (pc' := 51) dX11_gift_50 rfl ?_
        refine g_putI (pc' := 54) (k := 3) dX11_gift_51 rfl rfl ck_12 (by decide) fl_X11_155 rfl rfl rfl rfl ?_
        refine g_iconstN (n := 1) (pc' := 55) dX11_gift_54 rfl ?_
        refine g_zret dX11_gift_55 rfl (by rfl) (by decide) (by decide) ?_
        have e : sGift m (nI t) g n = (1, stU (stU (stU (stU m 167 (nGf m) (nI t)) 168 (nGf m) g) 169 (nGf m) n) 1 60 (nI (nGf m + 1))) := cif_t ⟨by omega, w2, c27.1, c27.2⟩
        rw [e]
        have c6 : C6 (stU (stU (stU (stU m 167 (nGf m) (nI t)) 168 (nGf m) g) 169 (nGf m) n) 1 60 (nI (nGf m + 1))) (adH h t k6 g n) := C6_term hc.c6 t k6 g n
        have c7 := C7_gift hc.c7 hk6 hkg (by omega) hP6 ht hTb g n
        exact ⟨rfl, ⟨hc.s, hc.e, ⟨hc.c1.1, hc.c1.2.1, hc.c1.2.2.1, rfl, hc.c1.2.2.2.2⟩, hc.c2, hc.c3, hc.c4, hc.c5, c6, c7, hc.c8, hc.c9, hc.c10, C11.same hc.c11 rfl rfl rfl rfl rfl rfl (fun _ => rfl) rfl, hc.c12, hc.c13⟩, (mo_off rfl).trans ((mo_off rfl).trans ((mo_off rfl).trans (mo_off rfl)))⟩
      ·
        refine g_iconstN (n := 0) (pc' := 31) dX11_gift_30 rfl ?_
        refine g_zret dX11_gift_31 rfl (by rfl) (by decide) (by decide) ?_
        have e : sGift m (nI t) g n = (0, m) := cif_f (fun z => c27 ⟨z.2.2.1, z.2.2.2⟩)
        rw [e]
        exact ⟨rfl, hc, rfl⟩
  ·
    refine g_invV (pc' := 5) (cx_toyAtN hok hc hw w2) dX11_gift_2 rfl rfl ck_12 rfl ml_X11_151 im_X11_toyAt sl_X11_toyAt in_X11 co_X11_toyAt pd_X11_toyAt rfl (by omega) (by decide) ⟨by decide, by decide⟩ (Nat.le_of_ble_eq_true rfl) ?_
    rintro _ _ ⟨rfl, rfl⟩ -
    refine g_astore (pc' := 7) dX11_gift_5 rfl (by decide) rfl ?_
    try simp only [List.set]
    refine g_aload (pc' := 9) dX11_gift_7 rfl rfl ?_
    refine g_ifnullN (tgt := 30) dX11_gift_9 (by decide) ?_
    refine g_iconstN (n := 0) (pc' := 31) dX11_gift_30 rfl ?_
    refine g_zret dX11_gift_31 rfl (by rfl) (by decide) (by decide) ?_
    have e : sGift m t0 g n = (0, m) := cif_f (fun z => w2 z.2.1)
    rw [e]
    exact ⟨rfl, hc, rfl⟩
