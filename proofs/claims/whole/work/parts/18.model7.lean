set_option maxRecDepth 4000 in
theorem lm_pieces {E : En} (hok : EOK E) {h h0 : Hp} (hs : Shp h.2) (hw : Wf (mo h)) {k i : Nat} (hk : k < nK (mo h)) (hi6 : i < 6) (n0 w0 : Int32) {d : Nat} (hd : 0 ≤ d) {Q : Option V → Hp → Prop} (hQ : ((∀ t, t < nT (mo h) → ¬ kd (mo h) t = k) → Q (some (vI 1)) (wI (wI h (113, 0) (6 * k + i) n0) (114, 0) (6 * k + i) w0)) ∧ ((∃ t, t < nT (mo h) ∧ kd (mo h) t = k) → Q (some (vI 0)) h)) : ∀ n t : Nat, t ≤ nT (mo h) → nT (mo h) - t = n → (∀ j, j < t → ¬ kd (mo h) j = k) → G E m_X12_pieces d 0 0 Q h0 45 [some (vR MO), some (vI (nI k)), some (vI (nI i)), some (vI n0), some (vI w0), some (vI (nI t))] [] (h) 0 0 := by
  have hNw : h.1 MO 2 = nI (nW (mo h)) := hw.w.1
  have hNwb := hw.w.2
  have hC : h.1 MO 30 = nI (nC (mo h)) := hw.c.1
  have hCb := hw.c.2
  have hK : h.1 MO 3 = nI (nK (mo h)) := hw.k.1
  have hKb := hw.k.2
  have hT : h.1 MO 4 = nI (nT (mo h)) := hw.t.1
  have hTb := hw.t.2
  have hF : h.1 MO 5 = nI (nF (mo h)) := hw.f.1
  have hFb := hw.f.2
  have hRc : h.1 MO 59 = nI (nR (mo h)) := hw.r.1
  have hRb := hw.r.2
  have hG : h.1 MO 60 = nI (nGf (mo h)) := hw.g.1
  have hGb := hw.g.2
  have hA : h.1 MO 70 = nI (nA (mo h)) := hw.a.1
  have hAb := hw.a.2
  have hTl : h.1 MO 1 = nI (nTl (mo h)) := hw.tl.1
  have hTlb := hw.tl.2
  intro n
  induction n with
  | zero =>
    intro t h1 h2 hi
    refine g_iload (pc' := 47) dX12_pieces_45 rfl rfl ?_
    refine g_aload_n (pc' := 48) dX12_pieces_47 rfl rfl ?_
    refine g_getIv (v := nI (nT (mo h))) (pc' := 51) (k := 4) dX12_pieces_48 rfl rfl ck_13 (by decide) fl_X12_211 rfl (hT) ?_
    refine g_icmp_geN (tgt := 73) (pc' := 54) dX12_pieces_51 rfl (by decide) (by omega) (by omega) (fun c51 => ?_) (fun c51 => ?_)
    ·
      refine g_aload_n (pc' := 74) dX12_pieces_73 rfl rfl ?_
      refine g_getS (pc' := 77) (k := 13) (b := (113, 0)) dX12_pieces_74 rfl rfl ck_13 (by decide) fl_X12_29 rfl hs rfl ?_
      refine g_bipushN (n := 6) (pc' := 79) dX12_pieces_77 rfl (by decide) ?_
      refine g_iload_n (pc' := 80) dX12_pieces_79 rfl rfl ?_
      refine g_imulN (pc' := 81) dX12_pieces_80 rfl ?_
      refine g_iload_n (pc' := 82) dX12_pieces_81 rfl rfl ?_
      refine g_iaddN (pc' := 83) dX12_pieces_82 rfl ?_
      refine g_iload_n (pc' := 84) dX12_pieces_83 rfl rfl ?_
      refine g_iastN (pc' := 85) dX12_pieces_84 rfl rfl (by decide) (by omega) ?_
      refine g_aload_n (pc' := 86) dX12_pieces_85 rfl rfl ?_
      refine g_getS (pc' := 89) (k := 14) (b := (114, 0)) dX12_pieces_86 rfl rfl ck_13 (by decide) fl_X12_32 rfl hs rfl ?_
      refine g_bipushN (n := 6) (pc' := 91) dX12_pieces_89 rfl (by decide) ?_
      refine g_iload_n (pc' := 92) dX12_pieces_91 rfl rfl ?_
      refine g_imulN (pc' := 93) dX12_pieces_92 rfl ?_
      refine g_iload_n (pc' := 94) dX12_pieces_93 rfl rfl ?_
      refine g_iaddN (pc' := 95) dX12_pieces_94 rfl ?_
      refine g_iload (pc' := 97) dX12_pieces_95 rfl rfl ?_
      refine g_iastN (pc' := 98) dX12_pieces_97 rfl rfl (by decide) (by omega) ?_
      refine g_iconstN (n := 1) (pc' := 99) dX12_pieces_98 rfl ?_
      refine g_zret dX12_pieces_99 rfl (by rfl) (by decide) (by decide) ?_
      exact hQ.1 (fun j q => hi j (by omega))
    · exact absurd c51 (by omega)
  | succ n ih =>
    intro t h1 h2 hi
    refine g_iload (pc' := 47) dX12_pieces_45 rfl rfl ?_
    refine g_aload_n (pc' := 48) dX12_pieces_47 rfl rfl ?_
    refine g_getIv (v := nI (nT (mo h))) (pc' := 51) (k := 4) dX12_pieces_48 rfl rfl ck_13 (by decide) fl_X12_211 rfl (hT) ?_
    refine g_icmp_geN (tgt := 73) (pc' := 54) dX12_pieces_51 rfl (by decide) (by omega) (by omega) (fun c51 => ?_) (fun c51 => ?_)
    · exact absurd c51 (by omega)
    ·
      have hkd := (hw.kd (t := t) (by omega)).2
      refine g_aload_n (pc' := 55) dX12_pieces_54 rfl rfl ?_
      refine g_getS (pc' := 58) (k := 15) (b := (115, 0)) dX12_pieces_55 rfl rfl ck_13 (by decide) fl_X12_35 rfl hs rfl ?_
      refine g_iload (pc' := 60) dX12_pieces_58 rfl rfl ?_
      refine g_ialdN (pc' := 61) (v := nI (kd (mo h) t)) dX12_pieces_60 rfl rfl (by decide) (by omega) ((hw.kd (by omega)).1) ?_
      refine g_iload_n (pc' := 62) dX12_pieces_61 rfl rfl ?_
      refine g_icmp_neN (tgt := 67) (pc' := 65) dX12_pieces_62 rfl (by decide) (by omega) (by omega) (fun c62 => ?_) (fun c62 => ?_)
      ·
        refine g_iincN (k := 1) (pc' := 70) dX12_pieces_67 rfl rfl (by decide) rfl ?_
        try simp only [List.set]
        refine g_goto (tgt := 45) dX12_pieces_70 (by decide) ?_
        exact ih (t + 1) (by omega) (by omega) (lt_s hi c62)
      ·
        refine g_iconstN (n := 0) (pc' := 66) dX12_pieces_65 rfl ?_
        refine g_zret dX12_pieces_66 rfl (by rfl) (by decide) (by decide) ?_
        exact hQ.2 ⟨t, by omega, c62⟩
noncomputable def sPieces (m : St) (k0 : Int32) (s0 : Int32) (n0 : Int32) (w0 : Int32) : Int32 × St := cif ((∃ j : Nat, j < nK m ∧ k0 = nI j) ∧ (0 ≤ s0 ∧ s0 ≤ 5) ∧ (0 ≤ n0 ∧ n0 ≤ 6) ∧ (1 ≤ w0 ∧ w0 ≤ 400) ∧ (∀ t, t < nT m → ¬ kd m t = k0.toNatClampNeg)) (1, stU (stU (m) 113 (6 * k0.toNatClampNeg + s0.toNatClampNeg) (n0)) 114 (6 * k0.toNatClampNeg + s0.toNatClampNeg) (w0)) (0, m)
set_option maxRecDepth 4000 in
theorem cm_pieces {E : En} (hok : EOK E) {h : Hp} (hs : Shp h.2) (hw : Wf (mo h)) (k0 : Int32) (s0 : Int32) (n0 : Int32) (w0 : Int32) : Call E m_X12_pieces 2 0 0 [vR MO, vI k0, vI s0, vI n0, vI w0] h (fun r h' => r = some (vI (sPieces (mo h) k0 s0 n0 w0).1) ∧ mo h' = (sPieces (mo h) k0 s0 n0 w0).2 ∧ Mk h h') := by
  have hNw : h.1 MO 2 = nI (nW (mo h)) := hw.w.1
  have hNwb := hw.w.2
  have hC : h.1 MO 30 = nI (nC (mo h)) := hw.c.1
  have hCb := hw.c.2
  have hK : h.1 MO 3 = nI (nK (mo h)) := hw.k.1
  have hKb := hw.k.2
  have hT : h.1 MO 4 = nI (nT (mo h)) := hw.t.1
  have hTb := hw.t.2
  have hF : h.1 MO 5 = nI (nF (mo h)) := hw.f.1
  have hFb := hw.f.2
  have hRc : h.1 MO 59 = nI (nR (mo h)) := hw.r.1
  have hRb := hw.r.2
  have hG : h.1 MO 60 = nI (nGf (mo h)) := hw.g.1
  have hGb := hw.g.2
  have hA : h.1 MO 70 = nI (nA (mo h)) := hw.a.1
  have hAb := hw.a.2
  have hTl : h.1 MO 1 = nI (nTl (mo h)) := hw.tl.1
  have hTlb := hw.tl.2
  refine Call.enter hok (by decide) (Nat.le_of_ble_eq_true rfl) ?_
  show G E m_X12_pieces 2 0 0 _ h 0 [some (vR MO), some (vI k0), some (vI s0), some (vI n0), some (vI w0), none] [] h 0 0
  refine g_aload_n (pc' := 1) dX12_pieces_0 rfl rfl ?_
  refine g_iload_n (pc' := 2) dX12_pieces_1 rfl rfl ?_
  refine g_invV (pc' := 5) (cm_isKind hok hw _) dX12_pieces_2 rfl rfl ck_13 rfl ml_X12_230 im_X12_isKind sl_X12_isKind in_X12 co_X12_isKind pd_X12_isKind rfl (by omega) (by decide) ⟨by decide, by decide⟩ (Nat.le_of_ble_eq_true rfl) ?_
  rintro _ _ ⟨rfl, rfl⟩ -
  refine g_ifB_eq (tgt := 40) (pc' := 8) dX12_pieces_5 rfl (by decide) (fun c5 => ?_) (fun c5 => ?_)
  ·
    refine g_iconstN (n := 0) (pc' := 41) dX12_pieces_40 rfl ?_
    refine g_zret dX12_pieces_41 rfl (by rfl) (by decide) (by decide) ?_
    have e : sPieces (mo h) k0 s0 n0 w0 = (0, mo h) := by exact cif_f (by rintro ⟨z0, z1, z2, z3, z4⟩; contradiction)
    rw [e]
    exact ⟨rfl, rfl, Mk.rf h⟩
  ·
    have k5 := c5
    obtain ⟨k, hk, rfl⟩ := k5
    refine g_iload_n (pc' := 9) dX12_pieces_8 rfl rfl ?_
    refine g_invS (pc' := 12) (cm_isSort hok _) dX12_pieces_9 rfl ml_X12_234 st_X12_isSort in_X12 co_X12_isSort pd_X12_isSort rfl (by omega) (by decide) ⟨by decide, by decide⟩ (Nat.le_of_ble_eq_true rfl) ?_
    rintro _ _ ⟨rfl, rfl⟩ -
    refine g_ifB_eq (tgt := 40) (pc' := 15) dX12_pieces_12 rfl (by decide) (fun c12 => ?_) (fun c12 => ?_)
    ·
      refine g_iconstN (n := 0) (pc' := 41) dX12_pieces_40 rfl ?_
      refine g_zret dX12_pieces_41 rfl (by rfl) (by decide) (by decide) ?_
      have e : sPieces (mo h) (nI k) s0 n0 w0 = (0, mo h) := by unfold sPieces; simp only [nI_clamp (show k < 2 ^ 31 by omega)]; exact cif_f (by rintro ⟨z0, z1, z2, z3, z4⟩; contradiction)
      rw [e]
      exact ⟨rfl, rfl, Mk.rf h⟩
    ·
      have k12 := sort_iff.mp c12
      obtain ⟨i, hi, rfl⟩ := k12
      refine g_iload_n (pc' := 16) dX12_pieces_15 rfl rfl ?_
      refine g_i2l (pc' := 17) dX12_pieces_16 rfl ?_
      refine g_lconst (v := 0) (pc' := 18) dX12_pieces_17 rfl rfl ?_
      refine g_ldc2 (pc' := 21) dX12_pieces_18 rfl kc_X12_237 ?_
      refine g_invS (pc' := 24) (c_liesI hok _ (0) (6) rfl (by decide) (by decide)) dX12_pieces_21 rfl ml_X12_203 st_X12_lies in_X12 co_X12_lies pd_X12_lies rfl (by omega) (by decide) ⟨by decide, by decide⟩ (Nat.le_of_ble_eq_true rfl) ?_
      rintro _ _ ⟨rfl, rfl⟩ -
      refine g_ifB_eq (tgt := 40) (pc' := 27) dX12_pieces_24 rfl (by decide) (fun c24 => ?_) (fun c24 => ?_)
      ·
        refine g_iconstN (n := 0) (pc' := 41) dX12_pieces_40 rfl ?_
        refine g_zret dX12_pieces_41 rfl (by rfl) (by decide) (by decide) ?_
        have e : sPieces (mo h) (nI k) (nI i) n0 w0 = (0, mo h) := by unfold sPieces; simp only [nI_clamp (show k < 2 ^ 31 by omega), nI_clamp (show i < 2 ^ 31 by omega)]; exact cif_f (by rintro ⟨z0, z1, z2, z3, z4⟩; contradiction)
        rw [e]
        exact ⟨rfl, rfl, Mk.rf h⟩
      ·
        refine g_iload (pc' := 29) dX12_pieces_27 rfl rfl ?_
        refine g_i2l (pc' := 30) dX12_pieces_29 rfl ?_
        refine g_lconst (v := 1) (pc' := 31) dX12_pieces_30 rfl rfl ?_
        refine g_ldc2 (pc' := 34) dX12_pieces_31 rfl kc_X12_239 ?_
        refine g_invS (pc' := 37) (c_liesI hok _ (1) (400) rfl (by decide) (by decide)) dX12_pieces_34 rfl ml_X12_203 st_X12_lies in_X12 co_X12_lies pd_X12_lies rfl (by omega) (by decide) ⟨by decide, by decide⟩ (Nat.le_of_ble_eq_true rfl) ?_
        rintro _ _ ⟨rfl, rfl⟩ -
        refine g_ifB_ne (tgt := 42) (pc' := 40) dX12_pieces_37 rfl (by decide) (fun c37 => ?_) (fun c37 => ?_)
        ·
          refine g_iconstN (n := 0) (pc' := 43) dX12_pieces_42 rfl ?_
          refine g_istore (pc' := 45) dX12_pieces_43 rfl (by decide) rfl ?_
          try simp only [List.set]
          refine lm_pieces hok hs hw hk hi n0 w0 (Nat.zero_le _) ⟨fun q => ?_, fun q => ?_⟩ _ 0 (Nat.zero_le _) rfl (fun j q => absurd q (Nat.not_lt_zero j))
          · have e : sPieces (mo h) (nI k) (nI i) n0 w0 = (1, stU (stU (mo h) 113 (6 * k + i) n0) 114 (6 * k + i) w0) := by unfold sPieces; simp only [nI_clamp (show k < 2 ^ 31 by omega), nI_clamp (show i < 2 ^ 31 by omega)]; exact cif_t ⟨c5, c12, c24, c37, q⟩
            rw [e]
            exact ⟨rfl, by rw [mo_wI (s := 114) rfl, mo_wI (s := 113) rfl] <;> rfl, ((Mk.rf h).w (Or.inr (by decide))).w (Or.inr (by decide))⟩
          · have e : sPieces (mo h) (nI k) (nI i) n0 w0 = (0, mo h) := by unfold sPieces; simp only [nI_clamp (show k < 2 ^ 31 by omega), nI_clamp (show i < 2 ^ 31 by omega)]; exact cif_f (fun z => by obtain ⟨t, q1, q2⟩ := q; exact z.2.2.2.2 t q1 q2)
            rw [e]
            exact ⟨rfl, rfl, Mk.rf h⟩
        ·
          refine g_iconstN (n := 0) (pc' := 41) dX12_pieces_40 rfl ?_
          refine g_zret dX12_pieces_41 rfl (by rfl) (by decide) (by decide) ?_
          have e : sPieces (mo h) (nI k) (nI i) n0 w0 = (0, mo h) := by unfold sPieces; simp only [nI_clamp (show k < 2 ^ 31 by omega), nI_clamp (show i < 2 ^ 31 by omega)]; exact cif_f (by rintro ⟨z0, z1, z2, z3, z4⟩; contradiction)
          rw [e]
          exact ⟨rfl, rfl, Mk.rf h⟩
def pb (v : Int32) (k : Nat) : Int32 := vp_nar .byte ((v >>> (nI k &&& 31)).toInt8.toInt32)
def pushH (h : Hp) (v : Int32) (T : Nat) : Hp := wI (wI (wI (wI (wI (wI (wI (wI h (100, 0) T (pb v 24)) MO 1 (nI (T + 1))) (100, 0) (T + 1) (pb v 16)) MO 1 (nI (T + 1 + 1))) (100, 0) (T + 1 + 1) (pb v 8)) MO 1 (nI (T + 1 + 1 + 1))) (100, 0) (T + 1 + 1 + 1) (pb v 0)) MO 1 (nI (T + 1 + 1 + 1 + 1))
def pushS (m : St) (v : Int32) (T : Nat) : St := stU (stU (stU (stU (stU (stU (stU (stU m 100 T (pb v 24)) 1 1 (nI (T + 1))) 100 (T + 1) (pb v 16)) 1 1 (nI (T + 1 + 1))) 100 (T + 1 + 1) (pb v 8)) 1 1 (nI (T + 1 + 1 + 1))) 100 (T + 1 + 1 + 1) (pb v 0)) 1 1 (nI (T + 1 + 1 + 1 + 1))
theorem mo_push (h : Hp) (v : Int32) (T : Nat) : mo (pushH h v T) = pushS (mo h) v T := by
  unfold pushH pushS
  rw [mo_wF (j := 1) rfl, mo_wI (s := 100) rfl, mo_wF (j := 1) rfl, mo_wI (s := 100) rfl, mo_wF (j := 1) rfl, mo_wI (s := 100) rfl, mo_wF (j := 1) rfl, mo_wI (s := 100) rfl]
theorem Mk.push {h h' : Hp} (k : Mk h h') (v : Int32) (T : Nat) : Mk h (pushH h' v T) := (((((((k.w (Or.inr (by decide))).w (Or.inl rfl)).w (Or.inr (by decide))).w (Or.inl rfl)).w (Or.inr (by decide))).w (Or.inl rfl)).w (Or.inr (by decide))).w (Or.inl rfl)
theorem push_at (h : Hp) (v : Int32) (T : Nat) : (pushH h v T).1 MO 1 = nI (T + 4) := wI_same _ _ _ _
set_option maxRecDepth 4000 in
theorem cm_push {E : En} (hok : EOK E) {h : Hp} (hs : Shp h.2) {T : Nat} (hT0 : h.1 MO 1 = nI T) (hTb : T + 4 ≤ 220) (v : Int32) : Fm E m_X12_push 0 [vR MO, vI v] h none (pushH h v T) := by
  refine Call.enter hok (by decide) (Nat.le_of_ble_eq_true rfl) ?_
  show G E m_X12_push 0 0 0 _ h 0 [some (vR MO), some (vI v), none] [] h 0 0
  refine g_bipushN (n := 24) (pc' := 2) dX12_push_0 rfl (by decide) ?_
  refine g_istore_n (pc' := 3) dX12_push_2 rfl (by decide) rfl ?_
  try simp only [List.set]
  refine g_iload_n (pc' := 4) dX12_push_3 rfl rfl ?_
  refine g_if_lt (tgt := 36) (pc' := 7) dX12_push_4 rfl (by decide) (fun q => absurd q (by decide)) (fun _ => ?_)
  refine g_aload_n (pc' := 8) dX12_push_7 rfl rfl ?_
  refine g_getS (pc' := 11) (k := 0) (b := (100, 0)) dX12_push_8 rfl rfl ck_13 (by decide) fl_X12_7 rfl hs rfl ?_
  refine g_aload_n (pc' := 12) dX12_push_11 rfl rfl ?_
  refine g_getIv (v := nI (T)) (pc' := 15) (k := 1) dX12_push_12 rfl rfl ck_13 (by decide) fl_X12_255 rfl (hT0) ?_
  refine g_iload_n (pc' := 16) dX12_push_15 rfl rfl ?_
  refine g_iload_n (pc' := 17) dX12_push_16 rfl rfl ?_
  refine g_ishr (pc' := 18) dX12_push_17 rfl ?_
  refine g_i2b (pc' := 19) dX12_push_18 rfl ?_
  refine g_bastN (pc' := 20) dX12_push_19 rfl rfl (by decide) (by omega) ?_
  refine g_aload_n (pc' := 21) dX12_push_20 rfl rfl ?_
  refine g_dup (pc' := 22) dX12_push_21 rfl rfl ?_
  refine g_getIv (v := nI (T)) (pc' := 25) (k := 1) dX12_push_22 rfl rfl ck_13 (by decide) fl_X12_255 rfl (hT0) ?_
  refine g_iconstN (n := 1) (pc' := 26) dX12_push_25 rfl ?_
  refine g_iaddN (pc' := 27) dX12_push_26 rfl ?_
  refine g_putI (pc' := 30) (k := 1) dX12_push_27 rfl rfl ck_13 (by decide) fl_X12_255 rfl rfl rfl rfl ?_
  refine g_iinc (v := nI 16) (pc' := 33) dX12_push_30 rfl rfl (by decide) (by decide) rfl ?_
  try simp only [List.set]
  refine g_goto (tgt := 3) dX12_push_33 (by decide) ?_
  refine g_iload_n (pc' := 4) dX12_push_3 rfl rfl ?_
  refine g_if_lt (tgt := 36) (pc' := 7) dX12_push_4 rfl (by decide) (fun q => absurd q (by decide)) (fun _ => ?_)
  refine g_aload_n (pc' := 8) dX12_push_7 rfl rfl ?_
  refine g_getS (pc' := 11) (k := 0) (b := (100, 0)) dX12_push_8 rfl rfl ck_13 (by decide) fl_X12_7 rfl hs rfl ?_
  refine g_aload_n (pc' := 12) dX12_push_11 rfl rfl ?_
  refine g_getIv (v := nI (T + 1)) (pc' := 15) (k := 1) dX12_push_12 rfl rfl ck_13 (by decide) fl_X12_255 rfl (wI_same _ _ _ _) ?_
  refine g_iload_n (pc' := 16) dX12_push_15 rfl rfl ?_
  refine g_iload_n (pc' := 17) dX12_push_16 rfl rfl ?_
  refine g_ishr (pc' := 18) dX12_push_17 rfl ?_
  refine g_i2b (pc' := 19) dX12_push_18 rfl ?_
  refine g_bastN (pc' := 20) dX12_push_19 rfl rfl (by decide) (by omega) ?_
  refine g_aload_n (pc' := 21) dX12_push_20 rfl rfl ?_
  refine g_dup (pc' := 22) dX12_push_21 rfl rfl ?_
  refine g_getIv (v := nI (T + 1)) (pc' := 25) (k := 1) dX12_push_22 rfl rfl ck_13 (by decide) fl_X12_255 rfl ((congrFun (wI_off _ _ _ _ MO (by decide)) 1).trans (wI_same _ _ _ _)) ?_
  refine g_iconstN (n := 1) (pc' := 26) dX12_push_25 rfl ?_
  refine g_iaddN (pc' := 27) dX12_push_26 rfl ?_
  refine g_putI (pc' := 30) (k := 1) dX12_push_27 rfl rfl ck_13 (by decide) fl_X12_255 rfl rfl rfl rfl ?_
  refine g_iinc (v := nI 8) (pc' := 33) dX12_push_30 rfl rfl (by decide) (by decide) rfl ?_
  try simp only [List.set]
  refine g_goto (tgt := 3) dX12_push_33 (by decide) ?_
  refine g_iload_n (pc' := 4) dX12_push_3 rfl rfl ?_
  refine g_if_lt (tgt := 36) (pc' := 7) dX12_push_4 rfl (by decide) (fun q => absurd q (by decide)) (fun _ => ?_)
  refine g_aload_n (pc' := 8) dX12_push_7 rfl rfl ?_
  refine g_getS (pc' := 11) (k := 0) (b := (100, 0)) dX12_push_8 rfl rfl ck_13 (by decide) fl_X12_7 rfl hs rfl ?_
  refine g_aload_n (pc' := 12) dX12_push_11 rfl rfl ?_
  refine g_getIv (v := nI (T + 1 + 1)) (pc' := 15) (k := 1) dX12_push_12 rfl rfl ck_13 (by decide) fl_X12_255 rfl (wI_same _ _ _ _) ?_
  refine g_iload_n (pc' := 16) dX12_push_15 rfl rfl ?_
  refine g_iload_n (pc' := 17) dX12_push_16 rfl rfl ?_
  refine g_ishr (pc' := 18) dX12_push_17 rfl ?_
  refine g_i2b (pc' := 19) dX12_push_18 rfl ?_
  refine g_bastN (pc' := 20) dX12_push_19 rfl rfl (by decide) (by omega) ?_
  refine g_aload_n (pc' := 21) dX12_push_20 rfl rfl ?_
  refine g_dup (pc' := 22) dX12_push_21 rfl rfl ?_
  refine g_getIv (v := nI (T + 1 + 1)) (pc' := 25) (k := 1) dX12_push_22 rfl rfl ck_13 (by decide) fl_X12_255 rfl ((congrFun (wI_off _ _ _ _ MO (by decide)) 1).trans (wI_same _ _ _ _)) ?_
  refine g_iconstN (n := 1) (pc' := 26) dX12_push_25 rfl ?_
  refine g_iaddN (pc' := 27) dX12_push_26 rfl ?_
  refine g_putI (pc' := 30) (k := 1) dX12_push_27 rfl rfl ck_13 (by decide) fl_X12_255 rfl rfl rfl rfl ?_
  refine g_iinc (v := nI 0) (pc' := 33) dX12_push_30 rfl rfl (by decide) (by decide) rfl ?_
  try simp only [List.set]
  refine g_goto (tgt := 3) dX12_push_33 (by decide) ?_
  refine g_iload_n (pc' := 4) dX12_push_3 rfl rfl ?_
  refine g_if_lt (tgt := 36) (pc' := 7) dX12_push_4 rfl (by decide) (fun q => absurd q (by decide)) (fun _ => ?_)
  refine g_aload_n (pc' := 8) dX12_push_7 rfl rfl ?_
  refine g_getS (pc' := 11) (k := 0) (b := (100, 0)) dX12_push_8 rfl rfl ck_13 (by decide) fl_X12_7 rfl hs rfl ?_
  refine g_aload_n (pc' := 12) dX12_push_11 rfl rfl ?_
  refine g_getIv (v := nI (T + 1 + 1 + 1)) (pc' := 15) (k := 1) dX12_push_12 rfl rfl ck_13 (by decide) fl_X12_255 rfl (wI_same _ _ _ _) ?_
  refine g_iload_n (pc' := 16) dX12_push_15 rfl rfl ?_
  refine g_iload_n (pc' := 17) dX12_push_16 rfl rfl ?_
  refine g_ishr (pc' := 18) dX12_push_17 rfl ?_
  refine g_i2b (pc' := 19) dX12_push_18 rfl ?_
  refine g_bastN (pc' := 20) dX12_push_19 rfl rfl (by decide) (by omega) ?_
  refine g_aload_n (pc' := 21) dX12_push_20 rfl rfl ?_
  refine g_dup (pc' := 22) dX12_push_21 rfl rfl ?_
  refine g_getIv (v := nI (T + 1 + 1 + 1)) (pc' := 25) (k := 1) dX12_push_22 rfl rfl ck_13 (by decide) fl_X12_255 rfl ((congrFun (wI_off _ _ _ _ MO (by decide)) 1).trans (wI_same _ _ _ _)) ?_
  refine g_iconstN (n := 1) (pc' := 26) dX12_push_25 rfl ?_
  refine g_iaddN (pc' := 27) dX12_push_26 rfl ?_
  refine g_putI (pc' := 30) (k := 1) dX12_push_27 rfl rfl ck_13 (by decide) fl_X12_255 rfl rfl rfl rfl ?_
  refine g_iinc (v := -8) (pc' := 33) dX12_push_30 rfl rfl (by decide) (by decide) rfl ?_
  try simp only [List.set]
  refine g_goto (tgt := 3) dX12_push_33 (by decide) ?_
  refine g_iload_n (pc' := 4) dX12_push_3 rfl rfl ?_
  refine g_if_lt (tgt := 36) (pc' := 7) dX12_push_4 rfl (by decide) (fun _ => ?_) (fun q => absurd (by decide) q)
  refine g_vret dX12_push_36 rfl (by decide) (by decide) ?_
  exact ⟨rfl, rfl⟩
noncomputable def sFeed (m : St) (a : Int32) (b : Int32) (c : Int32) (d : Int32) (e : Int32) : Int32 × St := cif ((nTl m + 20 ≤ 220)) (nI (nTl m + 16 + 4), pushS (pushS (pushS (pushS (pushS (m) a (nTl m)) b (nTl m + 4)) c (nTl m + 8)) d (nTl m + 12)) e (nTl m + 16)) (-1, m)
set_option maxRecDepth 4000 in
theorem cm_feed {E : En} (hok : EOK E) {h : Hp} (hs : Shp h.2) (hw : Wf (mo h)) (a : Int32) (b : Int32) (c : Int32) (d : Int32) (e : Int32) : Call E m_X12_feed 1 0 0 [vR MO, vI a, vI b, vI c, vI d, vI e] h (fun r h' => r = some (vI (sFeed (mo h) a b c d e).1) ∧ mo h' = (sFeed (mo h) a b c d e).2 ∧ Mk h h') := by
  have hNw : h.1 MO 2 = nI (nW (mo h)) := hw.w.1
  have hNwb := hw.w.2
  have hC : h.1 MO 30 = nI (nC (mo h)) := hw.c.1
  have hCb := hw.c.2
  have hK : h.1 MO 3 = nI (nK (mo h)) := hw.k.1
  have hKb := hw.k.2
  have hT : h.1 MO 4 = nI (nT (mo h)) := hw.t.1
  have hTb := hw.t.2
  have hF : h.1 MO 5 = nI (nF (mo h)) := hw.f.1
  have hFb := hw.f.2
  have hRc : h.1 MO 59 = nI (nR (mo h)) := hw.r.1
  have hRb := hw.r.2
  have hG : h.1 MO 60 = nI (nGf (mo h)) := hw.g.1
  have hGb := hw.g.2
  have hA : h.1 MO 70 = nI (nA (mo h)) := hw.a.1
  have hAb := hw.a.2
  have hTl : h.1 MO 1 = nI (nTl (mo h)) := hw.tl.1
  have hTlb := hw.tl.2
  refine Call.enter hok (by decide) (Nat.le_of_ble_eq_true rfl) ?_
  show G E m_X12_feed 1 0 0 _ h 0 [some (vR MO), some (vI a), some (vI b), some (vI c), some (vI d), some (vI e)] [] h 0 0
  refine g_aload_n (pc' := 1) dX12_feed_0 rfl rfl ?_
  refine g_getIv (v := nI (nTl (mo h))) (pc' := 4) (k := 1) dX12_feed_1 rfl rfl ck_13 (by decide) fl_X12_255 rfl (hTl) ?_
  refine g_bipushN (n := 20) (pc' := 6) dX12_feed_4 rfl (by decide) ?_
  refine g_iaddN (pc' := 7) dX12_feed_6 rfl ?_
  refine g_sipushN (n := 220) (pc' := 10) dX12_feed_7 rfl (by decide) ?_
  refine g_icmp_leN (tgt := 15) (pc' := 13) dX12_feed_10 rfl (by decide) (by omega) (by omega) (fun c10 => ?_) (fun c10 => ?_)
  ·
    refine g_aload_n (pc' := 16) dX12_feed_15 rfl rfl ?_
    refine g_iload_n (pc' := 17) dX12_feed_16 rfl rfl ?_
    refine g_invV (pc' := 20) (cm_push (h := h) hok hs (T := nTl (mo h)) (hTl) (by omega) _) dX12_feed_17 rfl rfl ck_13 rfl ml_X12_258 im_X12_push sl_X12_push in_X12 co_X12_push pd_X12_push rfl (by omega) (by decide) ⟨by decide, by decide⟩ (Nat.le_of_ble_eq_true rfl) ?_
    rintro _ _ ⟨rfl, rfl⟩ -
    refine g_aload_n (pc' := 21) dX12_feed_20 rfl rfl ?_
    refine g_iload_n (pc' := 22) dX12_feed_21 rfl rfl ?_
    refine g_invV (pc' := 25) (cm_push (h := pushH (h) a (nTl (mo h))) hok hs (T := nTl (mo h) + 4) (push_at _ _ _) (by omega) _) dX12_feed_22 rfl rfl ck_13 rfl ml_X12_258 im_X12_push sl_X12_push in_X12 co_X12_push pd_X12_push rfl (by omega) (by decide) ⟨by decide, by decide⟩ (Nat.le_of_ble_eq_true rfl) ?_
    rintro _ _ ⟨rfl, rfl⟩ -
    refine g_aload_n (pc' := 26) dX12_feed_25 rfl rfl ?_
    refine g_iload_n (pc' := 27) dX12_feed_26 rfl rfl ?_
    refine g_invV (pc' := 30) (cm_push (h := pushH (pushH (h) a (nTl (mo h))) b (nTl (mo h) + 4)) hok hs (T := nTl (mo h) + 8) (push_at _ _ _) (by omega) _) dX12_feed_27 rfl rfl ck_13 rfl ml_X12_258 im_X12_push sl_X12_push in_X12 co_X12_push pd_X12_push rfl (by omega) (by decide) ⟨by decide, by decide⟩ (Nat.le_of_ble_eq_true rfl) ?_
    rintro _ _ ⟨rfl, rfl⟩ -
    refine g_aload_n (pc' := 31) dX12_feed_30 rfl rfl ?_
    refine g_iload (pc' := 33) dX12_feed_31 rfl rfl ?_
    refine g_invV (pc' := 36) (cm_push (h := pushH (pushH (pushH (h) a (nTl (mo h))) b (nTl (mo h) + 4)) c (nTl (mo h) + 8)) hok hs (T := nTl (mo h) + 12) (push_at _ _ _) (by omega) _) dX12_feed_33 rfl rfl ck_13 rfl ml_X12_258 im_X12_push sl_X12_push in_X12 co_X12_push pd_X12_push rfl (by omega) (by decide) ⟨by decide, by decide⟩ (Nat.le_of_ble_eq_true rfl) ?_
    rintro _ _ ⟨rfl, rfl⟩ -
    refine g_aload_n (pc' := 37) dX12_feed_36 rfl rfl ?_
    refine g_iload (pc' := 39) dX12_feed_37 rfl rfl ?_
    refine g_invV (pc' := 42) (cm_push (h := pushH (pushH (pushH (pushH (h) a (nTl (mo h))) b (nTl (mo h) + 4)) c (nTl (mo h) + 8)) d (nTl (mo h) + 12)) hok hs (T := nTl (mo h) + 16) (push_at _ _ _) (by omega) _) dX12_feed_39 rfl rfl ck_13 rfl ml_X12_258 im_X12_push sl_X12_push in_X12 co_X12_push pd_X12_push rfl (by omega) (by decide) ⟨by decide, by decide⟩ (Nat.le_of_ble_eq_true rfl) ?_
    rintro _ _ ⟨rfl, rfl⟩ -
    refine g_aload_n (pc' := 43) dX12_feed_42 rfl rfl ?_
    refine g_getIv (v := nI (nTl (mo h) + 16 + 4)) (pc' := 46) (k := 1) dX12_feed_43 rfl rfl ck_13 (by decide) fl_X12_255 rfl (push_at _ _ _) ?_
    refine g_iret dX12_feed_46 rfl (by decide) (by decide) ?_
    have e : sFeed (mo h) a b c d e = (nI (nTl (mo h) + 16 + 4), pushS (pushS (pushS (pushS (pushS ((mo h)) a (nTl (mo h))) b (nTl (mo h) + 4)) c (nTl (mo h) + 8)) d (nTl (mo h) + 12)) e (nTl (mo h) + 16)) := by exact cif_t (by assumption)
    rw [e]
    exact ⟨rfl, by rw [mo_push, mo_push, mo_push, mo_push, mo_push], (((((Mk.rf h).push _ _).push _ _).push _ _).push _ _).push _ _⟩
  ·
    refine g_iconst (v := -1) (pc' := 14) dX12_feed_13 rfl (by decide) ?_
    refine g_iret dX12_feed_14 rfl (by decide) (by decide) ?_
    have e : sFeed (mo h) a b c d e = (-1, mo h) := by exact cif_f (by rintro z; contradiction)
    rw [e]
    exact ⟨rfl, rfl, Mk.rf h⟩
noncomputable def sGift (m : St) (t0 : Int32) (g : Int32) (n : Int32) : Int32 × St := cif ((¬ nGf m = 20) ∧ (∃ j : Nat, j < nT m ∧ t0 = nI j) ∧ (0 ≤ g ∧ g ≤ 3) ∧ ((g = 0 → 0 ≤ n ∧ n ≤ 4) ∧ (g = nI 1 → ∃ j : Nat, j < nF m ∧ n = nI j) ∧ (g = nI 2 → 0 ≤ n ∧ n ≤ 699) ∧ (g = nI 3 → 0 ≤ n ∧ n ≤ 9))) (1, stU (stU (stU (stU (m) 167 (nGf m) (t0)) 168 (nGf m) (g)) 169 (nGf m) (n)) 1 (60) (nI (nGf m + 1))) (0, m)
set_option maxRecDepth 4000 in
theorem cm_gift {E : En} (hok : EOK E) {h : Hp} (hs : Shp h.2) (hw : Wf (mo h)) (t0 : Int32) (g : Int32) (n : Int32) : Call E m_X12_gift 2 0 0 [vR MO, vI t0, vI g, vI n] h (fun r h' => r = some (vI (sGift (mo h) t0 g n).1) ∧ mo h' = (sGift (mo h) t0 g n).2 ∧ Mk h h') := by
  have hNw : h.1 MO 2 = nI (nW (mo h)) := hw.w.1
  have hNwb := hw.w.2
  have hC : h.1 MO 30 = nI (nC (mo h)) := hw.c.1
  have hCb := hw.c.2
  have hK : h.1 MO 3 = nI (nK (mo h)) := hw.k.1
  have hKb := hw.k.2
  have hT : h.1 MO 4 = nI (nT (mo h)) := hw.t.1
  have hTb := hw.t.2
  have hF : h.1 MO 5 = nI (nF (mo h)) := hw.f.1
  have hFb := hw.f.2
  have hRc : h.1 MO 59 = nI (nR (mo h)) := hw.r.1
  have hRb := hw.r.2
  have hG : h.1 MO 60 = nI (nGf (mo h)) := hw.g.1
  have hGb := hw.g.2
  have hA : h.1 MO 70 = nI (nA (mo h)) := hw.a.1
  have hAb := hw.a.2
  have hTl : h.1 MO 1 = nI (nTl (mo h)) := hw.tl.1
  have hTlb := hw.tl.2
  refine Call.enter hok (by decide) (Nat.le_of_ble_eq_true rfl) ?_
  show G E m_X12_gift 2 0 0 _ h 0 [some (vR MO), some (vI t0), some (vI g), some (vI n)] [] h 0 0
  refine g_aload_n (pc' := 1) dX12_gift_0 rfl rfl ?_
  refine g_getIv (v := nI (nGf (mo h))) (pc' := 4) (k := 60) dX12_gift_1 rfl rfl ck_13 (by decide) fl_X12_426 rfl (hG) ?_
  refine g_bipushN (n := 20) (pc' := 6) dX12_gift_4 rfl (by decide) ?_
  refine g_icmp_eqN (tgt := 29) (pc' := 9) dX12_gift_6 rfl (by decide) (by omega) (by omega) (fun c6 => ?_) (fun c6 => ?_)
  ·
    refine g_iconstN (n := 0) (pc' := 30) dX12_gift_29 rfl ?_
    refine g_zret dX12_gift_30 rfl (by rfl) (by decide) (by decide) ?_
    have e : sGift (mo h) t0 g n = (0, mo h) := cif_f (fun z => z.1 c6)
    rw [e]
    exact ⟨rfl, rfl, Mk.rf h⟩
  ·
    refine g_aload_n (pc' := 10) dX12_gift_9 rfl rfl ?_
    refine g_iload_n (pc' := 11) dX12_gift_10 rfl rfl ?_
    refine g_invV (pc' := 14) (cm_isToy hok hw _) dX12_gift_11 rfl rfl ck_13 rfl ml_X12_443 im_X12_isToy sl_X12_isToy in_X12 co_X12_isToy pd_X12_isToy rfl (by omega) (by decide) ⟨by decide, by decide⟩ (Nat.le_of_ble_eq_true rfl) ?_
    rintro _ _ ⟨rfl, rfl⟩ -
    refine g_ifB_eq (tgt := 29) (pc' := 17) dX12_gift_14 rfl (by decide) (fun c14 => ?_) (fun c14 => ?_)
    ·
      refine g_iconstN (n := 0) (pc' := 30) dX12_gift_29 rfl ?_
      refine g_zret dX12_gift_30 rfl (by rfl) (by decide) (by decide) ?_
      have e : sGift (mo h) t0 g n = (0, mo h) := cif_f (fun z => c14 z.2.1)
      rw [e]
      exact ⟨rfl, rfl, Mk.rf h⟩
    ·
      have k14 := c14
      obtain ⟨t, ht, rfl⟩ := k14
      refine g_iload_n (pc' := 18) dX12_gift_17 rfl rfl ?_
      refine g_i2l (pc' := 19) dX12_gift_18 rfl ?_
      refine g_lconst (v := 0) (pc' := 20) dX12_gift_19 rfl rfl ?_
      refine g_ldc2 (pc' := 23) dX12_gift_20 rfl kc_X12_438 ?_
      refine g_invS (pc' := 26) (c_liesI hok _ (0) (3) rfl (by decide) (by decide)) dX12_gift_23 rfl ml_X12_203 st_X12_lies in_X12 co_X12_lies pd_X12_lies rfl (by omega) (by decide) ⟨by decide, by decide⟩ (Nat.le_of_ble_eq_true rfl) ?_
      rintro _ _ ⟨rfl, rfl⟩ -
      refine g_ifB_ne (tgt := 31) (pc' := 29) dX12_gift_26 rfl (by decide) (fun c26 => ?_) (fun c26 => ?_)
      ·
        refine g_iload_n (pc' := 32) dX12_gift_31 rfl rfl ?_
        refine g_if_ne (tgt := 47) (pc' := 35) dX12_gift_32 rfl (by decide) (fun c32 => ?_) (fun c32 => ?_)
        ·
          refine g_iload_n (pc' := 48) dX12_gift_47 rfl rfl ?_
          refine g_iconstN (n := 1) (pc' := 49) dX12_gift_48 rfl ?_
          refine g_icmp_ne (tgt := 60) (pc' := 52) dX12_gift_49 rfl (by decide) (fun c49 => ?_) (fun c49 => ?_)
          ·
            refine g_iload_n (pc' := 61) dX12_gift_60 rfl rfl ?_
            refine g_iconstN (n := 2) (pc' := 62) dX12_gift_61 rfl ?_
            refine g_icmp_ne (tgt := 72) (pc' := 65) dX12_gift_62 rfl (by decide) (fun c62 => ?_) (fun c62 => ?_)
            ·
              refine g_iload_n (pc' := 73) dX12_gift_72 rfl rfl ?_
              refine g_iconstN (n := 3) (pc' := 74) dX12_gift_73 rfl ?_
              refine g_icmp_ne (tgt := 91) (pc' := 77) dX12_gift_74 rfl (by decide) (fun c74 => ?_) (fun c74 => ?_)
              ·
                refine g_aload_n (pc' := 92) dX12_gift_91 rfl rfl ?_
                refine g_getS (pc' := 95) (k := 67) (b := (167, 0)) dX12_gift_92 rfl rfl ck_13 (by decide) fl_X12_144 rfl hs rfl ?_
                refine g_aload_n (pc' := 96) dX12_gift_95 rfl rfl ?_
                refine g_getIv (v := nI (nGf (mo h))) (pc' := 99) (k := 60) dX12_gift_96 rfl rfl ck_13 (by decide) fl_X12_426 rfl (hG) ?_
                refine g_iload_n (pc' := 100) dX12_gift_99 rfl rfl ?_
                refine g_iastN (pc' := 101) dX12_gift_100 rfl rfl (by decide) (by omega) ?_
                refine g_aload_n (pc' := 102) dX12_gift_101 rfl rfl ?_
                refine g_getS (pc' := 105) (k := 68) (b := (168, 0)) dX12_gift_102 rfl rfl ck_13 (by decide) fl_X12_147 rfl hs rfl ?_
                refine g_aload_n (pc' := 106) dX12_gift_105 rfl rfl ?_
                refine g_getIv (v := nI (nGf (mo h))) (pc' := 109) (k := 60) dX12_gift_106 rfl rfl ck_13 (by decide) fl_X12_426 rfl (hG) ?_
                refine g_iload_n (pc' := 110) dX12_gift_109 rfl rfl ?_
                refine g_iastN (pc' := 111) dX12_gift_110 rfl rfl (by decide) (by omega) ?_
                refine g_aload_n (pc' := 112) dX12_gift_111 rfl rfl ?_
                refine g_getS (pc' := 115) (k := 69) (b := (169, 0)) dX12_gift_112 rfl rfl ck_13 (by decide) fl_X12_150 rfl hs rfl ?_
                refine g_aload_n (pc' := 116) dX12_gift_115 rfl rfl ?_
                refine g_getIv (v := nI (nGf (mo h))) (pc' := 119) (k := 60) dX12_gift_116 rfl rfl ck_13 (by decide) fl_X12_426 rfl (hG) ?_
                refine g_iload_n (pc' := 120) dX12_gift_119 rfl rfl ?_
                refine g_iastN (pc' := 121) dX12_gift_120 rfl rfl (by decide) (by omega) ?_
                refine g_aload_n (pc' := 122) dX12_gift_121 rfl rfl ?_
                refine g_dup (pc' := 123) dX12_gift_122 rfl rfl ?_
                refine g_getIv (v := nI (nGf (mo h))) (pc' := 126) (k := 60) dX12_gift_123 rfl rfl ck_13 (by decide) fl_X12_426 rfl (hG) ?_
                refine g_iconstN (n := 1) (pc' := 127) dX12_gift_126 rfl ?_
                refine g_iaddN (pc' := 128) dX12_gift_127 rfl ?_
                refine g_putI (pc' := 131) (k := 60) dX12_gift_128 rfl rfl ck_13 (by decide) fl_X12_426 rfl rfl rfl rfl ?_
                refine g_iconstN (n := 1) (pc' := 132) dX12_gift_131 rfl ?_
                refine g_zret dX12_gift_132 rfl (by rfl) (by decide) (by decide) ?_
                have e : sGift (mo h) (nI t) g n = (1, stU (stU (stU (stU (mo h) 167 (nGf (mo h)) (nI t)) 168 (nGf (mo h)) g) 169 (nGf (mo h)) n) 1 60 (nI (nGf (mo h) + 1))) := cif_t ⟨c6, c14, c26, ⟨fun z => absurd z c32, fun z => absurd z c49, fun z => absurd z c62, fun z => absurd z c74⟩⟩
                rw [e]
                exact ⟨rfl, by rw [mo_wF (j := 60) rfl, mo_wI (s := 169) rfl, mo_wI (s := 168) rfl, mo_wI (s := 167) rfl] <;> rfl, ((((Mk.rf h).w (Or.inr (by decide))).w (Or.inr (by decide))).w (Or.inr (by decide))).w (Or.inl rfl)⟩
              ·
                refine g_iload_n (pc' := 78) dX12_gift_77 rfl rfl ?_
                refine g_i2l (pc' := 79) dX12_gift_78 rfl ?_
                refine g_lconst (v := 0) (pc' := 80) dX12_gift_79 rfl rfl ?_
                refine g_ldc2 (pc' := 83) dX12_gift_80 rfl kc_X12_226 ?_
                refine g_invS (pc' := 86) (c_liesI hok _ (0) (9) rfl (by decide) (by decide)) dX12_gift_83 rfl ml_X12_203 st_X12_lies in_X12 co_X12_lies pd_X12_lies rfl (by omega) (by decide) ⟨by decide, by decide⟩ (Nat.le_of_ble_eq_true rfl) ?_
                rintro _ _ ⟨rfl, rfl⟩ -
                refine g_ifB_ne (tgt := 91) (pc' := 89) dX12_gift_86 rfl (by decide) (fun c86 => ?_) (fun c86 => ?_)
                ·
                  refine g_aload_n (pc' := 92) dX12_gift_91 rfl rfl ?_
                  refine g_getS (pc' := 95) (k := 67) (b := (167, 0)) dX12_gift_92 rfl rfl ck_13 (by decide) fl_X12_144 rfl hs rfl ?_
                  refine g_aload_n (pc' := 96) dX12_gift_95 rfl rfl ?_
                  refine g_getIv (v := nI (nGf (mo h))) (pc' := 99) (k := 60) dX12_gift_96 rfl rfl ck_13 (by decide) fl_X12_426 rfl (hG) ?_
                  refine g_iload_n (pc' := 100) dX12_gift_99 rfl rfl ?_
                  refine g_iastN (pc' := 101) dX12_gift_100 rfl rfl (by decide) (by omega) ?_
                  refine g_aload_n (pc' := 102) dX12_gift_101 rfl rfl ?_
                  refine g_getS (pc' := 105) (k := 68) (b := (168, 0)) dX12_gift_102 rfl rfl ck_13 (by decide) fl_X12_147 rfl hs rfl ?_
                  refine g_aload_n (pc' := 106) dX12_gift_105 rfl rfl ?_
                  refine g_getIv (v := nI (nGf (mo h))) (pc' := 109) (k := 60) dX12_gift_106 rfl rfl ck_13 (by decide) fl_X12_426 rfl (hG) ?_
                  refine g_iload_n (pc' := 110) dX12_gift_109 rfl rfl ?_
                  refine g_iastN (pc' := 111) dX12_gift_110 rfl rfl (by decide) (by omega) ?_
                  refine g_aload_n (pc' := 112) dX12_gift_111 rfl rfl ?_
                  refine g_getS (pc' := 115) (k := 69) (b := (169, 0)) dX12_gift_112 rfl rfl ck_13 (by decide) fl_X12_150 rfl hs rfl ?_
                  refine g_aload_n (pc' := 116) dX12_gift_115 rfl rfl ?_
                  refine g_getIv (v := nI (nGf (mo h))) (pc' := 119) (k := 60) dX12_gift_116 rfl rfl ck_13 (by decide) fl_X12_426 rfl (hG) ?_
                  refine g_iload_n (pc' := 120) dX12_gift_119 rfl rfl ?_
                  refine g_iastN (pc' := 121) dX12_gift_120 rfl rfl (by decide) (by omega) ?_
                  refine g_aload_n (pc' := 122) dX12_gift_121 rfl rfl ?_
                  refine g_dup (pc' := 123) dX12_gift_122 rfl rfl ?_
                  refine g_getIv (v := nI (nGf (mo h))) (pc' := 126) (k := 60) dX12_gift_123 rfl rfl ck_13 (by decide) fl_X12_426 rfl (hG) ?_
                  refine g_iconstN (n := 1) (pc' := 127) dX12_gift_126 rfl ?_
                  refine g_iaddN (pc' := 128) dX12_gift_127 rfl ?_
                  refine g_putI (pc' := 131) (k := 60) dX12_gift_128 rfl rfl ck_13 (by decide) fl_X12_426 rfl rfl rfl rfl ?_
                  refine g_iconstN (n := 1) (pc' := 132) dX12_gift_131 rfl ?_
                  refine g_zret dX12_gift_132 rfl (by rfl) (by decide) (by decide) ?_
                  have e : sGift (mo h) (nI t) g n = (1, stU (stU (stU (stU (mo h) 167 (nGf (mo h)) (nI t)) 168 (nGf (mo h)) g) 169 (nGf (mo h)) n) 1 60 (nI (nGf (mo h) + 1))) := cif_t ⟨c6, c14, c26, ⟨fun z => absurd z c32, fun z => absurd z c49, fun z => absurd z c62, fun _ => c86⟩⟩
                  rw [e]
                  exact ⟨rfl, by rw [mo_wF (j := 60) rfl, mo_wI (s := 169) rfl, mo_wI (s := 168) rfl, mo_wI (s := 167) rfl] <;> rfl, ((((Mk.rf h).w (Or.inr (by decide))).w (Or.inr (by decide))).w (Or.inr (by decide))).w (Or.inl rfl)⟩
                ·
                  refine g_iconstN (n := 0) (pc' := 90) dX12_gift_89 rfl ?_
                  refine g_zret dX12_gift_90 rfl (by rfl) (by decide) (by decide) ?_
                  have e : sGift (mo h) (nI t) g n = (0, mo h) := cif_f (fun z => c86 (z.2.2.2.2.2.2 c74))
                  rw [e]
                  exact ⟨rfl, rfl, Mk.rf h⟩
            ·
              refine g_iload_n (pc' := 66) dX12_gift_65 rfl rfl ?_
              refine g_invS (pc' := 69) (cm_isDay hok _) dX12_gift_66 rfl ml_X12_446 st_X12_isDay in_X12 co_X12_isDay pd_X12_isDay rfl (by omega) (by decide) ⟨by decide, by decide⟩ (Nat.le_of_ble_eq_true rfl) ?_
              rintro _ _ ⟨rfl, rfl⟩ -
              refine g_ifB_eq (tgt := 89) (pc' := 72) dX12_gift_69 rfl (by decide) (fun c69 => ?_) (fun c69 => ?_)
              ·
                refine g_iconstN (n := 0) (pc' := 90) dX12_gift_89 rfl ?_
                refine g_zret dX12_gift_90 rfl (by rfl) (by decide) (by decide) ?_
                have e : sGift (mo h) (nI t) g n = (0, mo h) := cif_f (fun z => c69 (z.2.2.2.2.2.1 c62))
                rw [e]
                exact ⟨rfl, rfl, Mk.rf h⟩
              ·
                refine g_iload_n (pc' := 73) dX12_gift_72 rfl rfl ?_
                refine g_iconstN (n := 3) (pc' := 74) dX12_gift_73 rfl ?_
                refine g_icmp_ne (tgt := 91) (pc' := 77) dX12_gift_74 rfl (by decide) (fun c74 => ?_) (fun c74 => ?_)
                ·
                  refine g_aload_n (pc' := 92) dX12_gift_91 rfl rfl ?_
                  refine g_getS (pc' := 95) (k := 67) (b := (167, 0)) dX12_gift_92 rfl rfl ck_13 (by decide) fl_X12_144 rfl hs rfl ?_
                  refine g_aload_n (pc' := 96) dX12_gift_95 rfl rfl ?_
                  refine g_getIv (v := nI (nGf (mo h))) (pc' := 99) (k := 60) dX12_gift_96 rfl rfl ck_13 (by decide) fl_X12_426 rfl (hG) ?_
                  refine g_iload_n (pc' := 100) dX12_gift_99 rfl rfl ?_
                  refine g_iastN (pc' := 101) dX12_gift_100 rfl rfl (by decide) (by omega) ?_
                  refine g_aload_n (pc' := 102) dX12_gift_101 rfl rfl ?_
                  refine g_getS (pc' := 105) (k := 68) (b := (168, 0)) dX12_gift_102 rfl rfl ck_13 (by decide) fl_X12_147 rfl hs rfl ?_
                  refine g_aload_n (pc' := 106) dX12_gift_105 rfl rfl ?_
                  refine g_getIv (v := nI (nGf (mo h))) (pc' := 109) (k := 60) dX12_gift_106 rfl rfl ck_13 (by decide) fl_X12_426 rfl (hG) ?_
                  refine g_iload_n (pc' := 110) dX12_gift_109 rfl rfl ?_
                  refine g_iastN (pc' := 111) dX12_gift_110 rfl rfl (by decide) (by omega) ?_
                  refine g_aload_n (pc' := 112) dX12_gift_111 rfl rfl ?_
                  refine g_getS (pc' := 115) (k := 69) (b := (169, 0)) dX12_gift_112 rfl rfl ck_13 (by decide) fl_X12_150 rfl hs rfl ?_
                  refine g_aload_n (pc' := 116) dX12_gift_115 rfl rfl ?_
                  refine g_getIv (v := nI (nGf (mo h))) (pc' := 119) (k := 60) dX12_gift_116 rfl rfl ck_13 (by decide) fl_X12_426 rfl (hG) ?_
                  refine g_iload_n (pc' := 120) dX12_gift_119 rfl rfl ?_
                  refine g_iastN (pc' := 121) dX12_gift_120 rfl rfl (by decide) (by omega) ?_
                  refine g_aload_n (pc' := 122) dX12_gift_121 rfl rfl ?_
                  refine g_dup (pc' := 123) dX12_gift_122 rfl rfl ?_
                  refine g_getIv (v := nI (nGf (mo h))) (pc' := 126) (k := 60) dX12_gift_123 rfl rfl ck_13 (by decide) fl_X12_426 rfl (hG) ?_
                  refine g_iconstN (n := 1) (pc' := 127) dX12_gift_126 rfl ?_
                  refine g_iaddN (pc' := 128) dX12_gift_127 rfl ?_
                  refine g_putI (pc' := 131) (k := 60) dX12_gift_128 rfl rfl ck_13 (by decide) fl_X12_426 rfl rfl rfl rfl ?_
                  refine g_iconstN (n := 1) (pc' := 132) dX12_gift_131 rfl ?_
                  refine g_zret dX12_gift_132 rfl (by rfl) (by decide) (by decide) ?_
                  have e : sGift (mo h) (nI t) g n = (1, stU (stU (stU (stU (mo h) 167 (nGf (mo h)) (nI t)) 168 (nGf (mo h)) g) 169 (nGf (mo h)) n) 1 60 (nI (nGf (mo h) + 1))) := cif_t ⟨c6, c14, c26, ⟨fun z => absurd z c32, fun z => absurd z c49, fun _ => c69, fun z => absurd z c74⟩⟩
                  rw [e]
                  exact ⟨rfl, by rw [mo_wF (j := 60) rfl, mo_wI (s := 169) rfl, mo_wI (s := 168) rfl, mo_wI (s := 167) rfl] <;> rfl, ((((Mk.rf h).w (Or.inr (by decide))).w (Or.inr (by decide))).w (Or.inr (by decide))).w (Or.inl rfl)⟩
                ·
                  refine g_iload_n (pc' := 78) dX12_gift_77 rfl rfl ?_
                  refine g_i2l (pc' := 79) dX12_gift_78 rfl ?_
                  refine g_lconst (v := 0) (pc' := 80) dX12_gift_79 rfl rfl ?_
                  refine g_ldc2 (pc' := 83) dX12_gift_80 rfl kc_X12_226 ?_
                  refine g_invS (pc' := 86) (c_liesI hok _ (0) (9) rfl (by decide) (by decide)) dX12_gift_83 rfl ml_X12_203 st_X12_lies in_X12 co_X12_lies pd_X12_lies rfl (by omega) (by decide) ⟨by decide, by decide⟩ (Nat.le_of_ble_eq_true rfl) ?_
                  rintro _ _ ⟨rfl, rfl⟩ -
                  refine g_ifB_ne (tgt := 91) (pc' := 89) dX12_gift_86 rfl (by decide) (fun c86 => ?_) (fun c86 => ?_)
                  ·
                    refine g_aload_n (pc' := 92) dX12_gift_91 rfl rfl ?_
                    refine g_getS (pc' := 95) (k := 67) (b := (167, 0)) dX12_gift_92 rfl rfl ck_13 (by decide) fl_X12_144 rfl hs rfl ?_
                    refine g_aload_n (pc' := 96) dX12_gift_95 rfl rfl ?_
                    refine g_getIv (v := nI (nGf (mo h))) (pc' := 99) (k := 60) dX12_gift_96 rfl rfl ck_13 (by decide) fl_X12_426 rfl (hG) ?_
                    refine g_iload_n (pc' := 100) dX12_gift_99 rfl rfl ?_
                    refine g_iastN (pc' := 101) dX12_gift_100 rfl rfl (by decide) (by omega) ?_
                    refine g_aload_n (pc' := 102) dX12_gift_101 rfl rfl ?_
                    refine g_getS (pc' := 105) (k := 68) (b := (168, 0)) dX12_gift_102 rfl rfl ck_13 (by decide) fl_X12_147 rfl hs rfl ?_
                    refine g_aload_n (pc' := 106) dX12_gift_105 rfl rfl ?_
                    refine g_getIv (v := nI (nGf (mo h))) (pc' := 109) (k := 60) dX12_gift_106 rfl rfl ck_13 (by decide) fl_X12_426 rfl (hG) ?_
                    refine g_iload_n (pc' := 110) dX12_gift_109 rfl rfl ?_
                    refine g_iastN (pc' := 111) dX12_gift_110 rfl rfl (by decide) (by omega) ?_
                    refine g_aload_n (pc' := 112) dX12_gift_111 rfl rfl ?_
                    refine g_getS (pc' := 115) (k := 69) (b := (169, 0)) dX12_gift_112 rfl rfl ck_13 (by decide) fl_X12_150 rfl hs rfl ?_
                    refine g_aload_n (pc' := 116) dX12_gift_115 rfl rfl ?_
                    refine g_getIv (v := nI (nGf (mo h))) (pc' := 119) (k := 60) dX12_gift_116 rfl rfl ck_13 (by decide) fl_X12_426 rfl (hG) ?_
                    refine g_iload_n (pc' := 120) dX12_gift_119 rfl rfl ?_
                    refine g_iastN (pc' := 121) dX12_gift_120 rfl rfl (by decide) (by omega) ?_
                    refine g_aload_n (pc' := 122) dX12_gift_121 rfl rfl ?_
                    refine g_dup (pc' := 123) dX12_gift_122 rfl rfl ?_
                    refine g_getIv (v := nI (nGf (mo h))) (pc' := 126) (k := 60) dX12_gift_123 rfl rfl ck_13 (by decide) fl_X12_426 rfl (hG) ?_
                    refine g_iconstN (n := 1) (pc' := 127) dX12_gift_126 rfl ?_
                    refine g_iaddN (pc' := 128) dX12_gift_127 rfl ?_
                    refine g_putI (pc' := 131) (k := 60) dX12_gift_128 rfl rfl ck_13 (by decide) fl_X12_426 rfl rfl rfl rfl ?_
                    refine g_iconstN (n := 1) (pc' := 132) dX12_gift_131 rfl ?_
                    refine g_zret dX12_gift_132 rfl (by rfl) (by decide) (by decide) ?_
                    have e : sGift (mo h) (nI t) g n = (1, stU (stU (stU (stU (mo h) 167 (nGf (mo h)) (nI t)) 168 (nGf (mo h)) g) 169 (nGf (mo h)) n) 1 60 (nI (nGf (mo h) + 1))) := cif_t ⟨c6, c14, c26, ⟨fun z => absurd z c32, fun z => absurd z c49, fun _ => c69, fun _ => c86⟩⟩
                    rw [e]
                    exact ⟨rfl, by rw [mo_wF (j := 60) rfl, mo_wI (s := 169) rfl, mo_wI (s := 168) rfl, mo_wI (s := 167) rfl] <;> rfl, ((((Mk.rf h).w (Or.inr (by decide))).w (Or.inr (by decide))).w (Or.inr (by decide))).w (Or.inl rfl)⟩
                  ·
                    refine g_iconstN (n := 0) (pc' := 90) dX12_gift_89 rfl ?_
                    refine g_zret dX12_gift_90 rfl (by rfl) (by decide) (by decide) ?_
                    have e : sGift (mo h) (nI t) g n = (0, mo h) := cif_f (fun z => c86 (z.2.2.2.2.2.2 c74))
                    rw [e]
                    exact ⟨rfl, rfl, Mk.rf h⟩
          ·
            refine g_aload_n (pc' := 53) dX12_gift_52 rfl rfl ?_
            refine g_iload_n (pc' := 54) dX12_gift_53 rfl rfl ?_
            refine g_invV (pc' := 57) (cm_isFamily hok hw _) dX12_gift_54 rfl rfl ck_13 rfl ml_X12_435 im_X12_isFamily sl_X12_isFamily in_X12 co_X12_isFamily pd_X12_isFamily rfl (by omega) (by decide) ⟨by decide, by decide⟩ (Nat.le_of_ble_eq_true rfl) ?_
            rintro _ _ ⟨rfl, rfl⟩ -
            refine g_ifB_eq (tgt := 89) (pc' := 60) dX12_gift_57 rfl (by decide) (fun c57 => ?_) (fun c57 => ?_)
            ·
              refine g_iconstN (n := 0) (pc' := 90) dX12_gift_89 rfl ?_
              refine g_zret dX12_gift_90 rfl (by rfl) (by decide) (by decide) ?_
              have e : sGift (mo h) (nI t) g n = (0, mo h) := cif_f (fun z => c57 (z.2.2.2.2.1 c49))
              rw [e]
              exact ⟨rfl, rfl, Mk.rf h⟩
            ·
              refine g_iload_n (pc' := 61) dX12_gift_60 rfl rfl ?_
              refine g_iconstN (n := 2) (pc' := 62) dX12_gift_61 rfl ?_
              refine g_icmp_ne (tgt := 72) (pc' := 65) dX12_gift_62 rfl (by decide) (fun c62 => ?_) (fun c62 => ?_)
              ·
                refine g_iload_n (pc' := 73) dX12_gift_72 rfl rfl ?_
                refine g_iconstN (n := 3) (pc' := 74) dX12_gift_73 rfl ?_
                refine g_icmp_ne (tgt := 91) (pc' := 77) dX12_gift_74 rfl (by decide) (fun c74 => ?_) (fun c74 => ?_)
                ·
                  refine g_aload_n (pc' := 92) dX12_gift_91 rfl rfl ?_
                  refine g_getS (pc' := 95) (k := 67) (b := (167, 0)) dX12_gift_92 rfl rfl ck_13 (by decide) fl_X12_144 rfl hs rfl ?_
                  refine g_aload_n (pc' := 96) dX12_gift_95 rfl rfl ?_
                  refine g_getIv (v := nI (nGf (mo h))) (pc' := 99) (k := 60) dX12_gift_96 rfl rfl ck_13 (by decide) fl_X12_426 rfl (hG) ?_
                  refine g_iload_n (pc' := 100) dX12_gift_99 rfl rfl ?_
                  refine g_iastN (pc' := 101) dX12_gift_100 rfl rfl (by decide) (by omega) ?_
                  refine g_aload_n (pc' := 102) dX12_gift_101 rfl rfl ?_
                  refine g_getS (pc' := 105) (k := 68) (b := (168, 0)) dX12_gift_102 rfl rfl ck_13 (by decide) fl_X12_147 rfl hs rfl ?_
                  refine g_aload_n (pc' := 106) dX12_gift_105 rfl rfl ?_
                  refine g_getIv (v := nI (nGf (mo h))) (pc' := 109) (k := 60) dX12_gift_106 rfl rfl ck_13 (by decide) fl_X12_426 rfl (hG) ?_
                  refine g_iload_n (pc' := 110) dX12_gift_109 rfl rfl ?_
                  refine g_iastN (pc' := 111) dX12_gift_110 rfl rfl (by decide) (by omega) ?_
                  refine g_aload_n (pc' := 112) dX12_gift_111 rfl rfl ?_
                  refine g_getS (pc' := 115) (k := 69) (b := (169, 0)) dX12_gift_112 rfl rfl ck_13 (by decide) fl_X12_150 rfl hs rfl ?_
                  refine g_aload_n (pc' := 116) dX12_gift_115 rfl rfl ?_
                  refine g_getIv (v := nI (nGf (mo h))) (pc' := 119) (k := 60) dX12_gift_116 rfl rfl ck_13 (by decide) fl_X12_426 rfl (hG) ?_
                  refine g_iload_n (pc' := 120) dX12_gift_119 rfl rfl ?_
                  refine g_iastN (pc' := 121) dX12_gift_120 rfl rfl (by decide) (by omega) ?_
                  refine g_aload_n (pc' := 122) dX12_gift_121 rfl rfl ?_
                  refine g_dup (pc' := 123) dX12_gift_122 rfl rfl ?_
                  refine g_getIv (v := nI (nGf (mo h))) (pc' := 126) (k := 60) dX12_gift_123 rfl rfl ck_13 (by decide) fl_X12_426 rfl (hG) ?_
                  refine g_iconstN (n := 1) (pc' := 127) dX12_gift_126 rfl ?_
                  refine g_iaddN (pc' := 128) dX12_gift_127 rfl ?_
                  refine g_putI (pc' := 131) (k := 60) dX12_gift_128 rfl rfl ck_13 (by decide) fl_X12_426 rfl rfl rfl rfl ?_
                  refine g_iconstN (n := 1) (pc' := 132) dX12_gift_131 rfl ?_
                  refine g_zret dX12_gift_132 rfl (by rfl) (by decide) (by decide) ?_
                  have e : sGift (mo h) (nI t) g n = (1, stU (stU (stU (stU (mo h) 167 (nGf (mo h)) (nI t)) 168 (nGf (mo h)) g) 169 (nGf (mo h)) n) 1 60 (nI (nGf (mo h) + 1))) := cif_t ⟨c6, c14, c26, ⟨fun z => absurd z c32, fun _ => c57, fun z => absurd z c62, fun z => absurd z c74⟩⟩
                  rw [e]
                  exact ⟨rfl, by rw [mo_wF (j := 60) rfl, mo_wI (s := 169) rfl, mo_wI (s := 168) rfl, mo_wI (s := 167) rfl] <;> rfl, ((((Mk.rf h).w (Or.inr (by decide))).w (Or.inr (by decide))).w (Or.inr (by decide))).w (Or.inl rfl)⟩
                ·
                  refine g_iload_n (pc' := 78) dX12_gift_77 rfl rfl ?_
                  refine g_i2l (pc' := 79) dX12_gift_78 rfl ?_
                  refine g_lconst (v := 0) (pc' := 80) dX12_gift_79 rfl rfl ?_
                  refine g_ldc2 (pc' := 83) dX12_gift_80 rfl kc_X12_226 ?_
                  refine g_invS (pc' := 86) (c_liesI hok _ (0) (9) rfl (by decide) (by decide)) dX12_gift_83 rfl ml_X12_203 st_X12_lies in_X12 co_X12_lies pd_X12_lies rfl (by omega) (by decide) ⟨by decide, by decide⟩ (Nat.le_of_ble_eq_true rfl) ?_
                  rintro _ _ ⟨rfl, rfl⟩ -
                  refine g_ifB_ne (tgt := 91) (pc' := 89) dX12_gift_86 rfl (by decide) (fun c86 => ?_) (fun c86 => ?_)
                  ·
                    refine g_aload_n (pc' := 92) dX12_gift_91 rfl rfl ?_
                    refine g_getS (pc' := 95) (k := 67) (b := (167, 0)) dX12_gift_92 rfl rfl ck_13 (by decide) fl_X12_144 rfl hs rfl ?_
                    refine g_aload_n (pc' := 96) dX12_gift_95 rfl rfl ?_
                    refine g_getIv (v := nI (nGf (mo h))) (pc' := 99) (k := 60) dX12_gift_96 rfl rfl ck_13 (by decide) fl_X12_426 rfl (hG) ?_
                    refine g_iload_n (pc' := 100) dX12_gift_99 rfl rfl ?_
                    refine g_iastN (pc' := 101) dX12_gift_100 rfl rfl (by decide) (by omega) ?_
                    refine g_aload_n (pc' := 102) dX12_gift_101 rfl rfl ?_
                    refine g_getS (pc' := 105) (k := 68) (b := (168, 0)) dX12_gift_102 rfl rfl ck_13 (by decide) fl_X12_147 rfl hs rfl ?_
                    refine g_aload_n (pc' := 106) dX12_gift_105 rfl rfl ?_
                    refine g_getIv (v := nI (nGf (mo h))) (pc' := 109) (k := 60) dX12_gift_106 rfl rfl ck_13 (by decide) fl_X12_426 rfl (hG) ?_
                    refine g_iload_n (pc' := 110) dX12_gift_109 rfl rfl ?_
                    refine g_iastN (pc' := 111) dX12_gift_110 rfl rfl (by decide) (by omega) ?_
                    refine g_aload_n (pc' := 112) dX12_gift_111 rfl rfl ?_
                    refine g_getS (pc' := 115) (k := 69) (b := (169, 0)) dX12_gift_112 rfl rfl ck_13 (by decide) fl_X12_150 rfl hs rfl ?_
                    refine g_aload_n (pc' := 116) dX12_gift_115 rfl rfl ?_
                    refine g_getIv (v := nI (nGf (mo h))) (pc' := 119) (k := 60) dX12_gift_116 rfl rfl ck_13 (by decide) fl_X12_426 rfl (hG) ?_
                    refine g_iload_n (pc' := 120) dX12_gift_119 rfl rfl ?_
                    refine g_iastN (pc' := 121) dX12_gift_120 rfl rfl (by decide) (by omega) ?_
                    refine g_aload_n (pc' := 122) dX12_gift_121 rfl rfl ?_
                    refine g_dup (pc' := 123) dX12_gift_122 rfl rfl ?_
                    refine g_getIv (v := nI (nGf (mo h))) (pc' := 126) (k := 60) dX12_gift_123 rfl rfl ck_13 (by decide) fl_X12_426 rfl (hG) ?_
                    refine g_iconstN (n := 1) (pc' := 127) dX12_gift_126 rfl ?_
                    refine g_iaddN (pc' := 128) dX12_gift_127 rfl ?_
                    refine g_putI (pc' := 131) (k := 60) dX12_gift_128 rfl rfl ck_13 (by decide) fl_X12_426 rfl rfl rfl rfl ?_
                    refine g_iconstN (n := 1) (pc' := 132) dX12_gift_131 rfl ?_
                    refine g_zret dX12_gift_132 rfl (by rfl) (by decide) (by decide) ?_
                    have e : sGift (mo h) (nI t) g n = (1, stU (stU (stU (stU (mo h) 167 (nGf (mo h)) (nI t)) 168 (nGf (mo h)) g) 169 (nGf (mo h)) n) 1 60 (nI (nGf (mo h) + 1))) := cif_t ⟨c6, c14, c26, ⟨fun z => absurd z c32, fun _ => c57, fun z => absurd z c62, fun _ => c86⟩⟩
                    rw [e]
                    exact ⟨rfl, by rw [mo_wF (j := 60) rfl, mo_wI (s := 169) rfl, mo_wI (s := 168) rfl, mo_wI (s := 167) rfl] <;> rfl, ((((Mk.rf h).w (Or.inr (by decide))).w (Or.inr (by decide))).w (Or.inr (by decide))).w (Or.inl rfl)⟩
                  ·
                    refine g_iconstN (n := 0) (pc' := 90) dX12_gift_89 rfl ?_
                    refine g_zret dX12_gift_90 rfl (by rfl) (by decide) (by decide) ?_
                    have e : sGift (mo h) (nI t) g n = (0, mo h) := cif_f (fun z => c86 (z.2.2.2.2.2.2 c74))
                    rw [e]
                    exact ⟨rfl, rfl, Mk.rf h⟩
              ·
                refine g_iload_n (pc' := 66) dX12_gift_65 rfl rfl ?_
                refine g_invS (pc' := 69) (cm_isDay hok _) dX12_gift_66 rfl ml_X12_446 st_X12_isDay in_X12 co_X12_isDay pd_X12_isDay rfl (by omega) (by decide) ⟨by decide, by decide⟩ (Nat.le_of_ble_eq_true rfl) ?_
                rintro _ _ ⟨rfl, rfl⟩ -
                refine g_ifB_eq (tgt := 89) (pc' := 72) dX12_gift_69 rfl (by decide) (fun c69 => ?_) (fun c69 => ?_)
                ·
                  refine g_iconstN (n := 0) (pc' := 90) dX12_gift_89 rfl ?_
                  refine g_zret dX12_gift_90 rfl (by rfl) (by decide) (by decide) ?_
                  have e : sGift (mo h) (nI t) g n = (0, mo h) := cif_f (fun z => c69 (z.2.2.2.2.2.1 c62))
                  rw [e]
                  exact ⟨rfl, rfl, Mk.rf h⟩
                ·
                  refine g_iload_n (pc' := 73) dX12_gift_72 rfl rfl ?_
                  refine g_iconstN (n := 3) (pc' := 74) dX12_gift_73 rfl ?_
                  refine g_icmp_ne (tgt := 91) (pc' := 77) dX12_gift_74 rfl (by decide) (fun c74 => ?_) (fun c74 => ?_)
                  ·
                    refine g_aload_n (pc' := 92) dX12_gift_91 rfl rfl ?_
                    refine g_getS (pc' := 95) (k := 67) (b := (167, 0)) dX12_gift_92 rfl rfl ck_13 (by decide) fl_X12_144 rfl hs rfl ?_
                    refine g_aload_n (pc' := 96) dX12_gift_95 rfl rfl ?_
                    refine g_getIv (v := nI (nGf (mo h))) (pc' := 99) (k := 60) dX12_gift_96 rfl rfl ck_13 (by decide) fl_X12_426 rfl (hG) ?_
                    refine g_iload_n (pc' := 100) dX12_gift_99 rfl rfl ?_
                    refine g_iastN (pc' := 101) dX12_gift_100 rfl rfl (by decide) (by omega) ?_
                    refine g_aload_n (pc' := 102) dX12_gift_101 rfl rfl ?_
                    refine g_getS (pc' := 105) (k := 68) (b := (168, 0)) dX12_gift_102 rfl rfl ck_13 (by decide) fl_X12_147 rfl hs rfl ?_
                    refine g_aload_n (pc' := 106) dX12_gift_105 rfl rfl ?_
                    refine g_getIv (v := nI (nGf (mo h))) (pc' := 109) (k := 60) dX12_gift_106 rfl rfl ck_13 (by decide) fl_X12_426 rfl (hG) ?_
                    refine g_iload_n (pc' := 110) dX12_gift_109 rfl rfl ?_
                    refine g_iastN (pc' := 111) dX12_gift_110 rfl rfl (by decide) (by omega) ?_
                    refine g_aload_n (pc' := 112) dX12_gift_111 rfl rfl ?_
                    refine g_getS (pc' := 115) (k := 69) (b := (169, 0)) dX12_gift_112 rfl rfl ck_13 (by decide) fl_X12_150 rfl hs rfl ?_
                    refine g_aload_n (pc' := 116) dX12_gift_115 rfl rfl ?_
                    refine g_getIv (v := nI (nGf (mo h))) (pc' := 119) (k := 60) dX12_gift_116 rfl rfl ck_13 (by decide) fl_X12_426 rfl (hG) ?_
                    refine g_iload_n (pc' := 120) dX12_gift_119 rfl rfl ?_
                    refine g_iastN (pc' := 121) dX12_gift_120 rfl rfl (by decide) (by omega) ?_
                    refine g_aload_n (pc' := 122) dX12_gift_121 rfl rfl ?_
                    refine g_dup (pc' := 123) dX12_gift_122 rfl rfl ?_
                    refine g_getIv (v := nI (nGf (mo h))) (pc' := 126) (k := 60) dX12_gift_123 rfl rfl ck_13 (by decide) fl_X12_426 rfl (hG) ?_
                    refine g_iconstN (n := 1) (pc' := 127) dX12_gift_126 rfl ?_
                    refine g_iaddN (pc' := 128) dX12_gift_127 rfl ?_
                    refine g_putI (pc' := 131) (k := 60) dX12_gift_128 rfl rfl ck_13 (by decide) fl_X12_426 rfl rfl rfl rfl ?_
                    refine g_iconstN (n := 1) (pc' := 132) dX12_gift_131 rfl ?_
                    refine g_zret dX12_gift_132 rfl (by rfl) (by decide) (by decide) ?_
                    have e : sGift (mo h) (nI t) g n = (1, stU (stU (stU (stU (mo h) 167 (nGf (mo h)) (nI t)) 168 (nGf (mo h)) g) 169 (nGf (mo h)) n) 1 60 (nI (nGf (mo h) + 1))) := cif_t ⟨c6, c14, c26, ⟨fun z => absurd z c32, fun _ => c57, fun _ => c69, fun z => absurd z c74⟩⟩
                    rw [e]
                    exact ⟨rfl, by rw [mo_wF (j := 60) rfl, mo_wI (s := 169) rfl, mo_wI (s := 168) rfl, mo_wI (s := 167) rfl] <;> rfl, ((((Mk.rf h).w (Or.inr (by decide))).w (Or.inr (by decide))).w (Or.inr (by decide))).w (Or.inl rfl)⟩
                  ·
                    refine g_iload_n (pc' := 78) dX12_gift_77 rfl rfl ?_
                    refine g_i2l (pc' := 79) dX12_gift_78 rfl ?_
                    refine g_lconst (v := 0) (pc' := 80) dX12_gift_79 rfl rfl ?_
                    refine g_ldc2 (pc' := 83) dX12_gift_80 rfl kc_X12_226 ?_
                    refine g_invS (pc' := 86) (c_liesI hok _ (0) (9) rfl (by decide) (by decide)) dX12_gift_83 rfl ml_X12_203 st_X12_lies in_X12 co_X12_lies pd_X12_lies rfl (by omega) (by decide) ⟨by decide, by decide⟩ (Nat.le_of_ble_eq_true rfl) ?_
                    rintro _ _ ⟨rfl, rfl⟩ -
                    refine g_ifB_ne (tgt := 91) (pc' := 89) dX12_gift_86 rfl (by decide) (fun c86 => ?_) (fun c86 => ?_)
                    ·
                      refine g_aload_n (pc' := 92) dX12_gift_91 rfl rfl ?_
                      refine g_getS (pc' := 95) (k := 67) (b := (167, 0)) dX12_gift_92 rfl rfl ck_13 (by decide) fl_X12_144 rfl hs rfl ?_
                      refine g_aload_n (pc' := 96) dX12_gift_95 rfl rfl ?_
                      refine g_getIv (v := nI (nGf (mo h))) (pc' := 99) (k := 60) dX12_gift_96 rfl rfl ck_13 (by decide) fl_X12_426 rfl (hG) ?_
                      refine g_iload_n (pc' := 100) dX12_gift_99 rfl rfl ?_
                      refine g_iastN (pc' := 101) dX12_gift_100 rfl rfl (by decide) (by omega) ?_
                      refine g_aload_n (pc' := 102) dX12_gift_101 rfl rfl ?_
                      refine g_getS (pc' := 105) (k := 68) (b := (168, 0)) dX12_gift_102 rfl rfl ck_13 (by decide) fl_X12_147 rfl hs rfl ?_
                      refine g_aload_n (pc' := 106) dX12_gift_105 rfl rfl ?_
                      refine g_getIv (v := nI (nGf (mo h))) (pc' := 109) (k := 60) dX12_gift_106 rfl rfl ck_13 (by decide) fl_X12_426 rfl (hG) ?_
                      refine g_iload_n (pc' := 110) dX12_gift_109 rfl rfl ?_
                      refine g_iastN (pc' := 111) dX12_gift_110 rfl rfl (by decide) (by omega) ?_
                      refine g_aload_n (pc' := 112) dX12_gift_111 rfl rfl ?_
                      refine g_getS (pc' := 115) (k := 69) (b := (169, 0)) dX12_gift_112 rfl rfl ck_13 (by decide) fl_X12_150 rfl hs rfl ?_
                      refine g_aload_n (pc' := 116) dX12_gift_115 rfl rfl ?_
                      refine g_getIv (v := nI (nGf (mo h))) (pc' := 119) (k := 60) dX12_gift_116 rfl rfl ck_13 (by decide) fl_X12_426 rfl (hG) ?_
                      refine g_iload_n (pc' := 120) dX12_gift_119 rfl rfl ?_
                      refine g_iastN (pc' := 121) dX12_gift_120 rfl rfl (by decide) (by omega) ?_
                      refine g_aload_n (pc' := 122) dX12_gift_121 rfl rfl ?_
                      refine g_dup (pc' := 123) dX12_gift_122 rfl rfl ?_
                      refine g_getIv (v := nI (nGf (mo h))) (pc' := 126) (k := 60) dX12_gift_123 rfl rfl ck_13 (by decide) fl_X12_426 rfl (hG) ?_
                      refine g_iconstN (n := 1) (pc' := 127) dX12_gift_126 rfl ?_
                      refine g_iaddN (pc' := 128) dX12_gift_127 rfl ?_
                      refine g_putI (pc' := 131) (k := 60) dX12_gift_128 rfl rfl ck_13 (by decide) fl_X12_426 rfl rfl rfl rfl ?_
                      refine g_iconstN (n := 1) (pc' := 132) dX12_gift_131 rfl ?_
                      refine g_zret dX12_gift_132 rfl (by rfl) (by decide) (by decide) ?_
                      have e : sGift (mo h) (nI t) g n = (1, stU (stU (stU (stU (mo h) 167 (nGf (mo h)) (nI t)) 168 (nGf (mo h)) g) 169 (nGf (mo h)) n) 1 60 (nI (nGf (mo h) + 1))) := cif_t ⟨c6, c14, c26, ⟨fun z => absurd z c32, fun _ => c57, fun _ => c69, fun _ => c86⟩⟩
                      rw [e]
                      exact ⟨rfl, by rw [mo_wF (j := 60) rfl, mo_wI (s := 169) rfl, mo_wI (s := 168) rfl, mo_wI (s := 167) rfl] <;> rfl, ((((Mk.rf h).w (Or.inr (by decide))).w (Or.inr (by decide))).w (Or.inr (by decide))).w (Or.inl rfl)⟩
                    ·
                      refine g_iconstN (n := 0) (pc' := 90) dX12_gift_89 rfl ?_
                      refine g_zret dX12_gift_90 rfl (by rfl) (by decide) (by decide) ?_
                      have e : sGift (mo h) (nI t) g n = (0, mo h) := cif_f (fun z => c86 (z.2.2.2.2.2.2 c74))
                      rw [e]
                      exact ⟨rfl, rfl, Mk.rf h⟩
        ·
          refine g_iload_n (pc' := 36) dX12_gift_35 rfl rfl ?_
          refine g_i2l (pc' := 37) dX12_gift_36 rfl ?_
          refine g_lconst (v := 0) (pc' := 38) dX12_gift_37 rfl rfl ?_
          refine g_ldc2 (pc' := 41) dX12_gift_38 rfl kc_X12_243 ?_
          refine g_invS (pc' := 44) (c_liesI hok _ (0) (4) rfl (by decide) (by decide)) dX12_gift_41 rfl ml_X12_203 st_X12_lies in_X12 co_X12_lies pd_X12_lies rfl (by omega) (by decide) ⟨by decide, by decide⟩ (Nat.le_of_ble_eq_true rfl) ?_
          rintro _ _ ⟨rfl, rfl⟩ -
          refine g_ifB_eq (tgt := 89) (pc' := 47) dX12_gift_44 rfl (by decide) (fun c44 => ?_) (fun c44 => ?_)
          ·
            refine g_iconstN (n := 0) (pc' := 90) dX12_gift_89 rfl ?_
            refine g_zret dX12_gift_90 rfl (by rfl) (by decide) (by decide) ?_
            have e : sGift (mo h) (nI t) g n = (0, mo h) := cif_f (fun z => c44 (z.2.2.2.1 c32))
            rw [e]
            exact ⟨rfl, rfl, Mk.rf h⟩
          ·
            refine g_iload_n (pc' := 48) dX12_gift_47 rfl rfl ?_
            refine g_iconstN (n := 1) (pc' := 49) dX12_gift_48 rfl ?_
            refine g_icmp_ne (tgt := 60) (pc' := 52) dX12_gift_49 rfl (by decide) (fun c49 => ?_) (fun c49 => ?_)
            ·
              refine g_iload_n (pc' := 61) dX12_gift_60 rfl rfl ?_
              refine g_iconstN (n := 2) (pc' := 62) dX12_gift_61 rfl ?_
              refine g_icmp_ne (tgt := 72) (pc' := 65) dX12_gift_62 rfl (by decide) (fun c62 => ?_) (fun c62 => ?_)
              ·
                refine g_iload_n (pc' := 73) dX12_gift_72 rfl rfl ?_
                refine g_iconstN (n := 3) (pc' := 74) dX12_gift_73 rfl ?_
                refine g_icmp_ne (tgt := 91) (pc' := 77) dX12_gift_74 rfl (by decide) (fun c74 => ?_) (fun c74 => ?_)
                ·
                  refine g_aload_n (pc' := 92) dX12_gift_91 rfl rfl ?_
                  refine g_getS (pc' := 95) (k := 67) (b := (167, 0)) dX12_gift_92 rfl rfl ck_13 (by decide) fl_X12_144 rfl hs rfl ?_
                  refine g_aload_n (pc' := 96) dX12_gift_95 rfl rfl ?_
                  refine g_getIv (v := nI (nGf (mo h))) (pc' := 99) (k := 60) dX12_gift_96 rfl rfl ck_13 (by decide) fl_X12_426 rfl (hG) ?_
                  refine g_iload_n (pc' := 100) dX12_gift_99 rfl rfl ?_
                  refine g_iastN (pc' := 101) dX12_gift_100 rfl rfl (by decide) (by omega) ?_
                  refine g_aload_n (pc' := 102) dX12_gift_101 rfl rfl ?_
                  refine g_getS (pc' := 105) (k := 68) (b := (168, 0)) dX12_gift_102 rfl rfl ck_13 (by decide) fl_X12_147 rfl hs rfl ?_
                  refine g_aload_n (pc' := 106) dX12_gift_105 rfl rfl ?_
                  refine g_getIv (v := nI (nGf (mo h))) (pc' := 109) (k := 60) dX12_gift_106 rfl rfl ck_13 (by decide) fl_X12_426 rfl (hG) ?_
                  refine g_iload_n (pc' := 110) dX12_gift_109 rfl rfl ?_
                  refine g_iastN (pc' := 111) dX12_gift_110 rfl rfl (by decide) (by omega) ?_
                  refine g_aload_n (pc' := 112) dX12_gift_111 rfl rfl ?_
                  refine g_getS (pc' := 115) (k := 69) (b := (169, 0)) dX12_gift_112 rfl rfl ck_13 (by decide) fl_X12_150 rfl hs rfl ?_
                  refine g_aload_n (pc' := 116) dX12_gift_115 rfl rfl ?_
                  refine g_getIv (v := nI (nGf (mo h))) (pc' := 119) (k := 60) dX12_gift_116 rfl rfl ck_13 (by decide) fl_X12_426 rfl (hG) ?_
                  refine g_iload_n (pc' := 120) dX12_gift_119 rfl rfl ?_
                  refine g_iastN (pc' := 121) dX12_gift_120 rfl rfl (by decide) (by omega) ?_
                  refine g_aload_n (pc' := 122) dX12_gift_121 rfl rfl ?_
                  refine g_dup (pc' := 123) dX12_gift_122 rfl rfl ?_
                  refine g_getIv (v := nI (nGf (mo h))) (pc' := 126) (k := 60) dX12_gift_123 rfl rfl ck_13 (by decide) fl_X12_426 rfl (hG) ?_
                  refine g_iconstN (n := 1) (pc' := 127) dX12_gift_126 rfl ?_
                  refine g_iaddN (pc' := 128) dX12_gift_127 rfl ?_
                  refine g_putI (pc' := 131) (k := 60) dX12_gift_128 rfl rfl ck_13 (by decide) fl_X12_426 rfl rfl rfl rfl ?_
                  refine g_iconstN (n := 1) (pc' := 132) dX12_gift_131 rfl ?_
                  refine g_zret dX12_gift_132 rfl (by rfl) (by decide) (by decide) ?_
                  have e : sGift (mo h) (nI t) g n = (1, stU (stU (stU (stU (mo h) 167 (nGf (mo h)) (nI t)) 168 (nGf (mo h)) g) 169 (nGf (mo h)) n) 1 60 (nI (nGf (mo h) + 1))) := cif_t ⟨c6, c14, c26, ⟨fun _ => c44, fun z => absurd z c49, fun z => absurd z c62, fun z => absurd z c74⟩⟩
                  rw [e]
                  exact ⟨rfl, by rw [mo_wF (j := 60) rfl, mo_wI (s := 169) rfl, mo_wI (s := 168) rfl, mo_wI (s := 167) rfl] <;> rfl, ((((Mk.rf h).w (Or.inr (by decide))).w (Or.inr (by decide))).w (Or.inr (by decide))).w (Or.inl rfl)⟩
                ·
                  refine g_iload_n (pc' := 78) dX12_gift_77 rfl rfl ?_
                  refine g_i2l (pc' := 79) dX12_gift_78 rfl ?_
                  refine g_lconst (v := 0) (pc' := 80) dX12_gift_79 rfl rfl ?_
                  refine g_ldc2 (pc' := 83) dX12_gift_80 rfl kc_X12_226 ?_
                  refine g_invS (pc' := 86) (c_liesI hok _ (0) (9) rfl (by decide) (by decide)) dX12_gift_83 rfl ml_X12_203 st_X12_lies in_X12 co_X12_lies pd_X12_lies rfl (by omega) (by decide) ⟨by decide, by decide⟩ (Nat.le_of_ble_eq_true rfl) ?_
                  rintro _ _ ⟨rfl, rfl⟩ -
                  refine g_ifB_ne (tgt := 91) (pc' := 89) dX12_gift_86 rfl (by decide) (fun c86 => ?_) (fun c86 => ?_)
                  ·
                    refine g_aload_n (pc' := 92) dX12_gift_91 rfl rfl ?_
                    refine g_getS (pc' := 95) (k := 67) (b := (167, 0)) dX12_gift_92 rfl rfl ck_13 (by decide) fl_X12_144 rfl hs rfl ?_
                    refine g_aload_n (pc' := 96) dX12_gift_95 rfl rfl ?_
                    refine g_getIv (v := nI (nGf (mo h))) (pc' := 99) (k := 60) dX12_gift_96 rfl rfl ck_13 (by decide) fl_X12_426 rfl (hG) ?_
                    refine g_iload_n (pc' := 100) dX12_gift_99 rfl rfl ?_
                    refine g_iastN (pc' := 101) dX12_gift_100 rfl rfl (by decide) (by omega) ?_
                    refine g_aload_n (pc' := 102) dX12_gift_101 rfl rfl ?_
                    refine g_getS (pc' := 105) (k := 68) (b := (168, 0)) dX12_gift_102 rfl rfl ck_13 (by decide) fl_X12_147 rfl hs rfl ?_
                    refine g_aload_n (pc' := 106) dX12_gift_105 rfl rfl ?_
                    refine g_getIv (v := nI (nGf (mo h))) (pc' := 109) (k := 60) dX12_gift_106 rfl rfl ck_13 (by decide) fl_X12_426 rfl (hG) ?_
                    refine g_iload_n (pc' := 110) dX12_gift_109 rfl rfl ?_
                    refine g_iastN (pc' := 111) dX12_gift_110 rfl rfl (by decide) (by omega) ?_
                    refine g_aload_n (pc' := 112) dX12_gift_111 rfl rfl ?_
                    refine g_getS (pc' := 115) (k := 69) (b := (169, 0)) dX12_gift_112 rfl rfl ck_13 (by decide) fl_X12_150 rfl hs rfl ?_
                    refine g_aload_n (pc' := 116) dX12_gift_115 rfl rfl ?_
                    refine g_getIv (v := nI (nGf (mo h))) (pc' := 119) (k := 60) dX12_gift_116 rfl rfl ck_13 (by decide) fl_X12_426 rfl (hG) ?_
                    refine g_iload_n (pc' := 120) dX12_gift_119 rfl rfl ?_
                    refine g_iastN (pc' := 121) dX12_gift_120 rfl rfl (by decide) (by omega) ?_
                    refine g_aload_n (pc' := 122) dX12_gift_121 rfl rfl ?_
                    refine g_dup (pc' := 123) dX12_gift_122 rfl rfl ?_
                    refine g_getIv (v := nI (nGf (mo h))) (pc' := 126) (k := 60) dX12_gift_123 rfl rfl ck_13 (by decide) fl_X12_426 rfl (hG) ?_
                    refine g_iconstN (n := 1) (pc' := 127) dX12_gift_126 rfl ?_
                    refine g_iaddN (pc' := 128) dX12_gift_127 rfl ?_
                    refine g_putI (pc' := 131) (k := 60) dX12_gift_128 rfl rfl ck_13 (by decide) fl_X12_426 rfl rfl rfl rfl ?_
                    refine g_iconstN (n := 1) (pc' := 132) dX12_gift_131 rfl ?_
                    refine g_zret dX12_gift_132 rfl (by rfl) (by decide) (by decide) ?_
                    have e : sGift (mo h) (nI t) g n = (1, stU (stU (stU (stU (mo h) 167 (nGf (mo h)) (nI t)) 168 (nGf (mo h)) g) 169 (nGf (mo h)) n) 1 60 (nI (nGf (mo h) + 1))) := cif_t ⟨c6, c14, c26, ⟨fun _ => c44, fun z => absurd z c49, fun z => absurd z c62, fun _ => c86⟩⟩
                    rw [e]
                    exact ⟨rfl, by rw [mo_wF (j := 60) rfl, mo_wI (s := 169) rfl, mo_wI (s := 168) rfl, mo_wI (s := 167) rfl] <;> rfl, ((((Mk.rf h).w (Or.inr (by decide))).w (Or.inr (by decide))).w (Or.inr (by decide))).w (Or.inl rfl)⟩
                  ·
                    refine g_iconstN (n := 0) (pc' := 90) dX12_gift_89 rfl ?_
                    refine g_zret dX12_gift_90 rfl (by rfl) (by decide) (by decide) ?_
                    have e : sGift (mo h) (nI t) g n = (0, mo h) := cif_f (fun z => c86 (z.2.2.2.2.2.2 c74))
                    rw [e]
                    exact ⟨rfl, rfl, Mk.rf h⟩
              ·
                refine g_iload_n (pc' := 66) dX12_gift_65 rfl rfl ?_
                refine g_invS (pc' := 69) (cm_isDay hok _) dX12_gift_66 rfl ml_X12_446 st_X12_isDay in_X12 co_X12_isDay pd_X12_isDay rfl (by omega) (by decide) ⟨by decide, by decide⟩ (Nat.le_of_ble_eq_true rfl) ?_
                rintro _ _ ⟨rfl, rfl⟩ -
                refine g_ifB_eq (tgt := 89) (pc' := 72) dX12_gift_69 rfl (by decide) (fun c69 => ?_) (fun c69 => ?_)
                ·
                  refine g_iconstN (n := 0) (pc' := 90) dX12_gift_89 rfl ?_
                  refine g_zret dX12_gift_90 rfl (by rfl) (by decide) (by decide) ?_
                  have e : sGift (mo h) (nI t) g n = (0, mo h) := cif_f (fun z => c69 (z.2.2.2.2.2.1 c62))
                  rw [e]
                  exact ⟨rfl, rfl, Mk.rf h⟩
                ·
                  refine g_iload_n (pc' := 73) dX12_gift_72 rfl rfl ?_
                  refine g_iconstN (n := 3) (pc' := 74) dX12_gift_73 rfl ?_
                  refine g_icmp_ne (tgt := 91) (pc' := 77) dX12_gift_74 rfl (by decide) (fun c74 => ?_) (fun c74 => ?_)
                  ·
                    refine g_aload_n (pc' := 92) dX12_gift_91 rfl rfl ?_
                    refine g_getS (pc' := 95) (k := 67) (b := (167, 0)) dX12_gift_92 rfl rfl ck_13 (by decide) fl_X12_144 rfl hs rfl ?_
                    refine g_aload_n (pc' := 96) dX12_gift_95 rfl rfl ?_
                    refine g_getIv (v := nI (nGf (mo h))) (pc' := 99) (k := 60) dX12_gift_96 rfl rfl ck_13 (by decide) fl_X12_426 rfl (hG) ?_
                    refine g_iload_n (pc' := 100) dX12_gift_99 rfl rfl ?_
                    refine g_iastN (pc' := 101) dX12_gift_100 rfl rfl (by decide) (by omega) ?_
                    refine g_aload_n (pc' := 102) dX12_gift_101 rfl rfl ?_
                    refine g_getS (pc' := 105) (k := 68) (b := (168, 0)) dX12_gift_102 rfl rfl ck_13 (by decide) fl_X12_147 rfl hs rfl ?_
                    refine g_aload_n (pc' := 106) dX12_gift_105 rfl rfl ?_
                    refine g_getIv (v := nI (nGf (mo h))) (pc' := 109) (k := 60) dX12_gift_106 rfl rfl ck_13 (by decide) fl_X12_426 rfl (hG) ?_
                    refine g_iload_n (pc' := 110) dX12_gift_109 rfl rfl ?_
                    refine g_iastN (pc' := 111) dX12_gift_110 rfl rfl (by decide) (by omega) ?_
                    refine g_aload_n (pc' := 112) dX12_gift_111 rfl rfl ?_
                    refine g_getS (pc' := 115) (k := 69) (b := (169, 0)) dX12_gift_112 rfl rfl ck_13 (by decide) fl_X12_150 rfl hs rfl ?_
                    refine g_aload_n (pc' := 116) dX12_gift_115 rfl rfl ?_
                    refine g_getIv (v := nI (nGf (mo h))) (pc' := 119) (k := 60) dX12_gift_116 rfl rfl ck_13 (by decide) fl_X12_426 rfl (hG) ?_
                    refine g_iload_n (pc' := 120) dX12_gift_119 rfl rfl ?_
                    refine g_iastN (pc' := 121) dX12_gift_120 rfl rfl (by decide) (by omega) ?_
                    refine g_aload_n (pc' := 122) dX12_gift_121 rfl rfl ?_
                    refine g_dup (pc' := 123) dX12_gift_122 rfl rfl ?_
                    refine g_getIv (v := nI (nGf (mo h))) (pc' := 126) (k := 60) dX12_gift_123 rfl rfl ck_13 (by decide) fl_X12_426 rfl (hG) ?_
                    refine g_iconstN (n := 1) (pc' := 127) dX12_gift_126 rfl ?_
                    refine g_iaddN (pc' := 128) dX12_gift_127 rfl ?_
                    refine g_putI (pc' := 131) (k := 60) dX12_gift_128 rfl rfl ck_13 (by decide) fl_X12_426 rfl rfl rfl rfl ?_
                    refine g_iconstN (n := 1) (pc' := 132) dX12_gift_131 rfl ?_
                    refine g_zret dX12_gift_132 rfl (by rfl) (by decide) (by decide) ?_
                    have e : sGift (mo h) (nI t) g n = (1, stU (stU (stU (stU (mo h) 167 (nGf (mo h)) (nI t)) 168 (nGf (mo h)) g) 169 (nGf (mo h)) n) 1 60 (nI (nGf (mo h) + 1))) := cif_t ⟨c6, c14, c26, ⟨fun _ => c44, fun z => absurd z c49, fun _ => c69, fun z => absurd z c74⟩⟩
                    rw [e]
                    exact ⟨rfl, by rw [mo_wF (j := 60) rfl, mo_wI (s := 169) rfl, mo_wI (s := 168) rfl, mo_wI (s := 167) rfl] <;> rfl, ((((Mk.rf h).w (Or.inr (by decide))).w (Or.inr (by decide))).w (Or.inr (by decide))).w (Or.inl rfl)⟩
                  ·
                    refine g_iload_n (pc' := 78) dX12_gift_77 rfl rfl ?_
                    refine g_i2l (pc' := 79) dX12_gift_78 rfl ?_
                    refine g_lconst (v := 0) (pc' := 80) dX12_gift_79 rfl rfl ?_
                    refine g_ldc2 (pc' := 83) dX12_gift_80 rfl kc_X12_226 ?_
                    refine g_invS (pc' := 86) (c_liesI hok _ (0) (9) rfl (by decide) (by decide)) dX12_gift_83 rfl ml_X12_203 st_X12_lies in_X12 co_X12_lies pd_X12_lies rfl (by omega) (by decide) ⟨by decide, by decide⟩ (Nat.le_of_ble_eq_true rfl) ?_
                    rintro _ _ ⟨rfl, rfl⟩ -
                    refine g_ifB_ne (tgt := 91) (pc' := 89) dX12_gift_86 rfl (by decide) (fun c86 => ?_) (fun c86 => ?_)
                    ·
                      refine g_aload_n (pc' := 92) dX12_gift_91 rfl rfl ?_
                      refine g_getS (pc' := 95) (k := 67) (b := (167, 0)) dX12_gift_92 rfl rfl ck_13 (by decide) fl_X12_144 rfl hs rfl ?_
                      refine g_aload_n (pc' := 96) dX12_gift_95 rfl rfl ?_
                      refine g_getIv (v := nI (nGf (mo h))) (pc' := 99) (k := 60) dX12_gift_96 rfl rfl ck_13 (by decide) fl_X12_426 rfl (hG) ?_
                      refine g_iload_n (pc' := 100) dX12_gift_99 rfl rfl ?_
                      refine g_iastN (pc' := 101) dX12_gift_100 rfl rfl (by decide) (by omega) ?_
                      refine g_aload_n (pc' := 102) dX12_gift_101 rfl rfl ?_
                      refine g_getS (pc' := 105) (k := 68) (b := (168, 0)) dX12_gift_102 rfl rfl ck_13 (by decide) fl_X12_147 rfl hs rfl ?_
                      refine g_aload_n (pc' := 106) dX12_gift_105 rfl rfl ?_
                      refine g_getIv (v := nI (nGf (mo h))) (pc' := 109) (k := 60) dX12_gift_106 rfl rfl ck_13 (by decide) fl_X12_426 rfl (hG) ?_
                      refine g_iload_n (pc' := 110) dX12_gift_109 rfl rfl ?_
                      refine g_iastN (pc' := 111) dX12_gift_110 rfl rfl (by decide) (by omega) ?_
                      refine g_aload_n (pc' := 112) dX12_gift_111 rfl rfl ?_
                      refine g_getS (pc' := 115) (k := 69) (b := (169, 0)) dX12_gift_112 rfl rfl ck_13 (by decide) fl_X12_150 rfl hs rfl ?_
                      refine g_aload_n (pc' := 116) dX12_gift_115 rfl rfl ?_
                      refine g_getIv (v := nI (nGf (mo h))) (pc' := 119) (k := 60) dX12_gift_116 rfl rfl ck_13 (by decide) fl_X12_426 rfl (hG) ?_
                      refine g_iload_n (pc' := 120) dX12_gift_119 rfl rfl ?_
                      refine g_iastN (pc' := 121) dX12_gift_120 rfl rfl (by decide) (by omega) ?_
                      refine g_aload_n (pc' := 122) dX12_gift_121 rfl rfl ?_
                      refine g_dup (pc' := 123) dX12_gift_122 rfl rfl ?_
                      refine g_getIv (v := nI (nGf (mo h))) (pc' := 126) (k := 60) dX12_gift_123 rfl rfl ck_13 (by decide) fl_X12_426 rfl (hG) ?_
                      refine g_iconstN (n := 1) (pc' := 127) dX12_gift_126 rfl ?_
                      refine g_iaddN (pc' := 128) dX12_gift_127 rfl ?_
                      refine g_putI (pc' := 131) (k := 60) dX12_gift_128 rfl rfl ck_13 (by decide) fl_X12_426 rfl rfl rfl rfl ?_
                      refine g_iconstN (n := 1) (pc' := 132) dX12_gift_131 rfl ?_
                      refine g_zret dX12_gift_132 rfl (by rfl) (by decide) (by decide) ?_
                      have e : sGift (mo h) (nI t) g n = (1, stU (stU (stU (stU (mo h) 167 (nGf (mo h)) (nI t)) 168 (nGf (mo h)) g) 169 (nGf (mo h)) n) 1 60 (nI (nGf (mo h) + 1))) := cif_t ⟨c6, c14, c26, ⟨fun _ => c44, fun z => absurd z c49, fun _ => c69, fun _ => c86⟩⟩
                      rw [e]
                      exact ⟨rfl, by rw [mo_wF (j := 60) rfl, mo_wI (s := 169) rfl, mo_wI (s := 168) rfl, mo_wI (s := 167) rfl] <;> rfl, ((((Mk.rf h).w (Or.inr (by decide))).w (Or.inr (by decide))).w (Or.inr (by decide))).w (Or.inl rfl)⟩
                    ·
                      refine g_iconstN (n := 0) (pc' := 90) dX12_gift_89 rfl ?_
                      refine g_zret dX12_gift_90 rfl (by rfl) (by decide) (by decide) ?_
                      have e : sGift (mo h) (nI t) g n = (0, mo h) := cif_f (fun z => c86 (z.2.2.2.2.2.2 c74))
                      rw [e]
                      exact ⟨rfl, rfl, Mk.rf h⟩
            ·
              refine g_aload_n (pc' := 53) dX12_gift_52 rfl rfl ?_
              refine g_iload_n (pc' := 54) dX12_gift_53 rfl rfl ?_
              refine g_invV (pc' := 57) (cm_isFamily hok hw _) dX12_gift_54 rfl rfl ck_13 rfl ml_X12_435 im_X12_isFamily sl_X12_isFamily in_X12 co_X12_isFamily pd_X12_isFamily rfl (by omega) (by decide) ⟨by decide, by decide⟩ (Nat.le_of_ble_eq_true rfl) ?_
              rintro _ _ ⟨rfl, rfl⟩ -
              refine g_ifB_eq (tgt := 89) (pc' := 60) dX12_gift_57 rfl (by decide) (fun c57 => ?_) (fun c57 => ?_)
              ·
                refine g_iconstN (n := 0) (pc' := 90) dX12_gift_89 rfl ?_
                refine g_zret dX12_gift_90 rfl (by rfl) (by decide) (by decide) ?_
                have e : sGift (mo h) (nI t) g n = (0, mo h) := cif_f (fun z => c57 (z.2.2.2.2.1 c49))
                rw [e]
                exact ⟨rfl, rfl, Mk.rf h⟩
              ·
                refine g_iload_n (pc' := 61) dX12_gift_60 rfl rfl ?_
                refine g_iconstN (n := 2) (pc' := 62) dX12_gift_61 rfl ?_
                refine g_icmp_ne (tgt := 72) (pc' := 65) dX12_gift_62 rfl (by decide) (fun c62 => ?_) (fun c62 => ?_)
                ·
                  refine g_iload_n (pc' := 73) dX12_gift_72 rfl rfl ?_
                  refine g_iconstN (n := 3) (pc' := 74) dX12_gift_73 rfl ?_
                  refine g_icmp_ne (tgt := 91) (pc' := 77) dX12_gift_74 rfl (by decide) (fun c74 => ?_) (fun c74 => ?_)
                  ·
                    refine g_aload_n (pc' := 92) dX12_gift_91 rfl rfl ?_
                    refine g_getS (pc' := 95) (k := 67) (b := (167, 0)) dX12_gift_92 rfl rfl ck_13 (by decide) fl_X12_144 rfl hs rfl ?_
                    refine g_aload_n (pc' := 96) dX12_gift_95 rfl rfl ?_
                    refine g_getIv (v := nI (nGf (mo h))) (pc' := 99) (k := 60) dX12_gift_96 rfl rfl ck_13 (by decide) fl_X12_426 rfl (hG) ?_
                    refine g_iload_n (pc' := 100) dX12_gift_99 rfl rfl ?_
                    refine g_iastN (pc' := 101) dX12_gift_100 rfl rfl (by decide) (by omega) ?_
                    refine g_aload_n (pc' := 102) dX12_gift_101 rfl rfl ?_
                    refine g_getS (pc' := 105) (k := 68) (b := (168, 0)) dX12_gift_102 rfl rfl ck_13 (by decide) fl_X12_147 rfl hs rfl ?_
                    refine g_aload_n (pc' := 106) dX12_gift_105 rfl rfl ?_
                    refine g_getIv (v := nI (nGf (mo h))) (pc' := 109) (k := 60) dX12_gift_106 rfl rfl ck_13 (by decide) fl_X12_426 rfl (hG) ?_
                    refine g_iload_n (pc' := 110) dX12_gift_109 rfl rfl ?_
                    refine g_iastN (pc' := 111) dX12_gift_110 rfl rfl (by decide) (by omega) ?_
                    refine g_aload_n (pc' := 112) dX12_gift_111 rfl rfl ?_
                    refine g_getS (pc' := 115) (k := 69) (b := (169, 0)) dX12_gift_112 rfl rfl ck_13 (by decide) fl_X12_150 rfl hs rfl ?_
                    refine g_aload_n (pc' := 116) dX12_gift_115 rfl rfl ?_
                    refine g_getIv (v := nI (nGf (mo h))) (pc' := 119) (k := 60) dX12_gift_116 rfl rfl ck_13 (by decide) fl_X12_426 rfl (hG) ?_
                    refine g_iload_n (pc' := 120) dX12_gift_119 rfl rfl ?_
                    refine g_iastN (pc' := 121) dX12_gift_120 rfl rfl (by decide) (by omega) ?_
                    refine g_aload_n (pc' := 122) dX12_gift_121 rfl rfl ?_
                    refine g_dup (pc' := 123) dX12_gift_122 rfl rfl ?_
                    refine g_getIv (v := nI (nGf (mo h))) (pc' := 126) (k := 60) dX12_gift_123 rfl rfl ck_13 (by decide) fl_X12_426 rfl (hG) ?_
                    refine g_iconstN (n := 1) (pc' := 127) dX12_gift_126 rfl ?_
                    refine g_iaddN (pc' := 128) dX12_gift_127 rfl ?_
                    refine g_putI (pc' := 131) (k := 60) dX12_gift_128 rfl rfl ck_13 (by decide) fl_X12_426 rfl rfl rfl rfl ?_
                    refine g_iconstN (n := 1) (pc' := 132) dX12_gift_131 rfl ?_
                    refine g_zret dX12_gift_132 rfl (by rfl) (by decide) (by decide) ?_
                    have e : sGift (mo h) (nI t) g n = (1, stU (stU (stU (stU (mo h) 167 (nGf (mo h)) (nI t)) 168 (nGf (mo h)) g) 169 (nGf (mo h)) n) 1 60 (nI (nGf (mo h) + 1))) := cif_t ⟨c6, c14, c26, ⟨fun _ => c44, fun _ => c57, fun z => absurd z c62, fun z => absurd z c74⟩⟩
                    rw [e]
                    exact ⟨rfl, by rw [mo_wF (j := 60) rfl, mo_wI (s := 169) rfl, mo_wI (s := 168) rfl, mo_wI (s := 167) rfl] <;> rfl, ((((Mk.rf h).w (Or.inr (by decide))).w (Or.inr (by decide))).w (Or.inr (by decide))).w (Or.inl rfl)⟩
                  ·
                    refine g_iload_n (pc' := 78) dX12_gift_77 rfl rfl ?_
                    refine g_i2l (pc' := 79) dX12_gift_78 rfl ?_
                    refine g_lconst (v := 0) (pc' := 80) dX12_gift_79 rfl rfl ?_
                    refine g_ldc2 (pc' := 83) dX12_gift_80 rfl kc_X12_226 ?_
                    refine g_invS (pc' := 86) (c_liesI hok _ (0) (9) rfl (by decide) (by decide)) dX12_gift_83 rfl ml_X12_203 st_X12_lies in_X12 co_X12_lies pd_X12_lies rfl (by omega) (by decide) ⟨by decide, by decide⟩ (Nat.le_of_ble_eq_true rfl) ?_
                    rintro _ _ ⟨rfl, rfl⟩ -
                    refine g_ifB_ne (tgt := 91) (pc' := 89) dX12_gift_86 rfl (by decide) (fun c86 => ?_) (fun c86 => ?_)
                    ·
                      refine g_aload_n (pc' := 92) dX12_gift_91 rfl rfl ?_
                      refine g_getS (pc' := 95) (k := 67) (b := (167, 0)) dX12_gift_92 rfl rfl ck_13 (by decide) fl_X12_144 rfl hs rfl ?_
                      refine g_aload_n (pc' := 96) dX12_gift_95 rfl rfl ?_
                      refine g_getIv (v := nI (nGf (mo h))) (pc' := 99) (k := 60) dX12_gift_96 rfl rfl ck_13 (by decide) fl_X12_426 rfl (hG) ?_
                      refine g_iload_n (pc' := 100) dX12_gift_99 rfl rfl ?_
                      refine g_iastN (pc' := 101) dX12_gift_100 rfl rfl (by decide) (by omega) ?_
                      refine g_aload_n (pc' := 102) dX12_gift_101 rfl rfl ?_
                      refine g_getS (pc' := 105) (k := 68) (b := (168, 0)) dX12_gift_102 rfl rfl ck_13 (by decide) fl_X12_147 rfl hs rfl ?_
                      refine g_aload_n (pc' := 106) dX12_gift_105 rfl rfl ?_
                      refine g_getIv (v := nI (nGf (mo h))) (pc' := 109) (k := 60) dX12_gift_106 rfl rfl ck_13 (by decide) fl_X12_426 rfl (hG) ?_
                      refine g_iload_n (pc' := 110) dX12_gift_109 rfl rfl ?_
                      refine g_iastN (pc' := 111) dX12_gift_110 rfl rfl (by decide) (by omega) ?_
                      refine g_aload_n (pc' := 112) dX12_gift_111 rfl rfl ?_
                      refine g_getS (pc' := 115) (k := 69) (b := (169, 0)) dX12_gift_112 rfl rfl ck_13 (by decide) fl_X12_150 rfl hs rfl ?_
                      refine g_aload_n (pc' := 116) dX12_gift_115 rfl rfl ?_
                      refine g_getIv (v := nI (nGf (mo h))) (pc' := 119) (k := 60) dX12_gift_116 rfl rfl ck_13 (by decide) fl_X12_426 rfl (hG) ?_
                      refine g_iload_n (pc' := 120) dX12_gift_119 rfl rfl ?_
                      refine g_iastN (pc' := 121) dX12_gift_120 rfl rfl (by decide) (by omega) ?_
                      refine g_aload_n (pc' := 122) dX12_gift_121 rfl rfl ?_
                      refine g_dup (pc' := 123) dX12_gift_122 rfl rfl ?_
                      refine g_getIv (v := nI (nGf (mo h))) (pc' := 126) (k := 60) dX12_gift_123 rfl rfl ck_13 (by decide) fl_X12_426 rfl (hG) ?_
                      refine g_iconstN (n := 1) (pc' := 127) dX12_gift_126 rfl ?_
                      refine g_iaddN (pc' := 128) dX12_gift_127 rfl ?_
                      refine g_putI (pc' := 131) (k := 60) dX12_gift_128 rfl rfl ck_13 (by decide) fl_X12_426 rfl rfl rfl rfl ?_
                      refine g_iconstN (n := 1) (pc' := 132) dX12_gift_131 rfl ?_
                      refine g_zret dX12_gift_132 rfl (by rfl) (by decide) (by decide) ?_
                      have e : sGift (mo h) (nI t) g n = (1, stU (stU (stU (stU (mo h) 167 (nGf (mo h)) (nI t)) 168 (nGf (mo h)) g) 169 (nGf (mo h)) n) 1 60 (nI (nGf (mo h) + 1))) := cif_t ⟨c6, c14, c26, ⟨fun _ => c44, fun _ => c57, fun z => absurd z c62, fun _ => c86⟩⟩
                      rw [e]
                      exact ⟨rfl, by rw [mo_wF (j := 60) rfl, mo_wI (s := 169) rfl, mo_wI (s := 168) rfl, mo_wI (s := 167) rfl] <;> rfl, ((((Mk.rf h).w (Or.inr (by decide))).w (Or.inr (by decide))).w (Or.inr (by decide))).w (Or.inl rfl)⟩
                    ·
                      refine g_iconstN (n := 0) (pc' := 90) dX12_gift_89 rfl ?_
                      refine g_zret dX12_gift_90 rfl (by rfl) (by decide) (by decide) ?_
                      have e : sGift (mo h) (nI t) g n = (0, mo h) := cif_f (fun z => c86 (z.2.2.2.2.2.2 c74))
                      rw [e]
                      exact ⟨rfl, rfl, Mk.rf h⟩
                ·
                  refine g_iload_n (pc' := 66) dX12_gift_65 rfl rfl ?_
                  refine g_invS (pc' := 69) (cm_isDay hok _) dX12_gift_66 rfl ml_X12_446 st_X12_isDay in_X12 co_X12_isDay pd_X12_isDay rfl (by omega) (by decide) ⟨by decide, by decide⟩ (Nat.le_of_ble_eq_true rfl) ?_
                  rintro _ _ ⟨rfl, rfl⟩ -
                  refine g_ifB_eq (tgt := 89) (pc' := 72) dX12_gift_69 rfl (by decide) (fun c69 => ?_) (fun c69 => ?_)
                  ·
                    refine g_iconstN (n := 0) (pc' := 90) dX12_gift_89 rfl ?_
                    refine g_zret dX12_gift_90 rfl (by rfl) (by decide) (by decide) ?_
                    have e : sGift (mo h) (nI t) g n = (0, mo h) := cif_f (fun z => c69 (z.2.2.2.2.2.1 c62))
                    rw [e]
                    exact ⟨rfl, rfl, Mk.rf h⟩
                  ·
                    refine g_iload_n (pc' := 73) dX12_gift_72 rfl rfl ?_
                    refine g_iconstN (n := 3) (pc' := 74) dX12_gift_73 rfl ?_
                    refine g_icmp_ne (tgt := 91) (pc' := 77) dX12_gift_74 rfl (by decide) (fun c74 => ?_) (fun c74 => ?_)
                    ·
                      refine g_aload_n (pc' := 92) dX12_gift_91 rfl rfl ?_
                      refine g_getS (pc' := 95) (k := 67) (b := (167, 0)) dX12_gift_92 rfl rfl ck_13 (by decide) fl_X12_144 rfl hs rfl ?_
                      refine g_aload_n (pc' := 96) dX12_gift_95 rfl rfl ?_
                      refine g_getIv (v := nI (nGf (mo h))) (pc' := 99) (k := 60) dX12_gift_96 rfl rfl ck_13 (by decide) fl_X12_426 rfl (hG) ?_
                      refine g_iload_n (pc' := 100) dX12_gift_99 rfl rfl ?_
                      refine g_iastN (pc' := 101) dX12_gift_100 rfl rfl (by decide) (by omega) ?_
                      refine g_aload_n (pc' := 102) dX12_gift_101 rfl rfl ?_
                      refine g_getS (pc' := 105) (k := 68) (b := (168, 0)) dX12_gift_102 rfl rfl ck_13 (by decide) fl_X12_147 rfl hs rfl ?_
                      refine g_aload_n (pc' := 106) dX12_gift_105 rfl rfl ?_
                      refine g_getIv (v := nI (nGf (mo h))) (pc' := 109) (k := 60) dX12_gift_106 rfl rfl ck_13 (by decide) fl_X12_426 rfl (hG) ?_
                      refine g_iload_n (pc' := 110) dX12_gift_109 rfl rfl ?_
                      refine g_iastN (pc' := 111) dX12_gift_110 rfl rfl (by decide) (by omega) ?_
                      refine g_aload_n (pc' := 112) dX12_gift_111 rfl rfl ?_
                      refine g_getS (pc' := 115) (k := 69) (b := (169, 0)) dX12_gift_112 rfl rfl ck_13 (by decide) fl_X12_150 rfl hs rfl ?_
                      refine g_aload_n (pc' := 116) dX12_gift_115 rfl rfl ?_
                      refine g_getIv (v := nI (nGf (mo h))) (pc' := 119) (k := 60) dX12_gift_116 rfl rfl ck_13 (by decide) fl_X12_426 rfl (hG) ?_
                      refine g_iload_n (pc' := 120) dX12_gift_119 rfl rfl ?_
                      refine g_iastN (pc' := 121) dX12_gift_120 rfl rfl (by decide) (by omega) ?_
                      refine g_aload_n (pc' := 122) dX12_gift_121 rfl rfl ?_
                      refine g_dup (pc' := 123) dX12_gift_122 rfl rfl ?_
                      refine g_getIv (v := nI (nGf (mo h))) (pc' := 126) (k := 60) dX12_gift_123 rfl rfl ck_13 (by decide) fl_X12_426 rfl (hG) ?_
                      refine g_iconstN (n := 1) (pc' := 127) dX12_gift_126 rfl ?_
                      refine g_iaddN (pc' := 128) dX12_gift_127 rfl ?_
                      refine g_putI (pc' := 131) (k := 60) dX12_gift_128 rfl rfl ck_13 (by decide) fl_X12_426 rfl rfl rfl rfl ?_
                      refine g_iconstN (n := 1) (pc' := 132) dX12_gift_131 rfl ?_
                      refine g_zret dX12_gift_132 rfl (by rfl) (by decide) (by decide) ?_
                      have e : sGift (mo h) (nI t) g n = (1, stU (stU (stU (stU (mo h) 167 (nGf (mo h)) (nI t)) 168 (nGf (mo h)) g) 169 (nGf (mo h)) n) 1 60 (nI (nGf (mo h) + 1))) := cif_t ⟨c6, c14, c26, ⟨fun _ => c44, fun _ => c57, fun _ => c69, fun z => absurd z c74⟩⟩
                      rw [e]
                      exact ⟨rfl, by rw [mo_wF (j := 60) rfl, mo_wI (s := 169) rfl, mo_wI (s := 168) rfl, mo_wI (s := 167) rfl] <;> rfl, ((((Mk.rf h).w (Or.inr (by decide))).w (Or.inr (by decide))).w (Or.inr (by decide))).w (Or.inl rfl)⟩
                    ·
                      refine g_iload_n (pc' := 78) dX12_gift_77 rfl rfl ?_
                      refine g_i2l (pc' := 79) dX12_gift_78 rfl ?_
                      refine g_lconst (v := 0) (pc' := 80) dX12_gift_79 rfl rfl ?_
                      refine g_ldc2 (pc' := 83) dX12_gift_80 rfl kc_X12_226 ?_
                      refine g_invS (pc' := 86) (c_liesI hok _ (0) (9) rfl (by decide) (by decide)) dX12_gift_83 rfl ml_X12_203 st_X12_lies in_X12 co_X12_lies pd_X12_lies rfl (by omega) (by decide) ⟨by decide, by decide⟩ (Nat.le_of_ble_eq_true rfl) ?_
                      rintro _ _ ⟨rfl, rfl⟩ -
                      refine g_ifB_ne (tgt := 91) (pc' := 89) dX12_gift_86 rfl (by decide) (fun c86 => ?_) (fun c86 => ?_)
                      ·
                        refine g_aload_n (pc' := 92) dX12_gift_91 rfl rfl ?_
                        refine g_getS (pc' := 95) (k := 67) (b := (167, 0)) dX12_gift_92 rfl rfl ck_13 (by decide) fl_X12_144 rfl hs rfl ?_
                        refine g_aload_n (pc' := 96) dX12_gift_95 rfl rfl ?_
                        refine g_getIv (v := nI (nGf (mo h))) (pc' := 99) (k := 60) dX12_gift_96 rfl rfl ck_13 (by decide) fl_X12_426 rfl (hG) ?_
                        refine g_iload_n (pc' := 100) dX12_gift_99 rfl rfl ?_
                        refine g_iastN (pc' := 101) dX12_gift_100 rfl rfl (by decide) (by omega) ?_
                        refine g_aload_n (pc' := 102) dX12_gift_101 rfl rfl ?_
                        refine g_getS (pc' := 105) (k := 68) (b := (168, 0)) dX12_gift_102 rfl rfl ck_13 (by decide) fl_X12_147 rfl hs rfl ?_
                        refine g_aload_n (pc' := 106) dX12_gift_105 rfl rfl ?_
                        refine g_getIv (v := nI (nGf (mo h))) (pc' := 109) (k := 60) dX12_gift_106 rfl rfl ck_13 (by decide) fl_X12_426 rfl (hG) ?_
                        refine g_iload_n (pc' := 110) dX12_gift_109 rfl rfl ?_
                        refine g_iastN (pc' := 111) dX12_gift_110 rfl rfl (by decide) (by omega) ?_
                        refine g_aload_n (pc' := 112) dX12_gift_111 rfl rfl ?_
                        refine g_getS (pc' := 115) (k := 69) (b := (169, 0)) dX12_gift_112 rfl rfl ck_13 (by decide) fl_X12_150 rfl hs rfl ?_
                        refine g_aload_n (pc' := 116) dX12_gift_115 rfl rfl ?_
                        refine g_getIv (v := nI (nGf (mo h))) (pc' := 119) (k := 60) dX12_gift_116 rfl rfl ck_13 (by decide) fl_X12_426 rfl (hG) ?_
                        refine g_iload_n (pc' := 120) dX12_gift_119 rfl rfl ?_
                        refine g_iastN (pc' := 121) dX12_gift_120 rfl rfl (by decide) (by omega) ?_
                        refine g_aload_n (pc' := 122) dX12_gift_121 rfl rfl ?_
                        refine g_dup (pc' := 123) dX12_gift_122 rfl rfl ?_
                        refine g_getIv (v := nI (nGf (mo h))) (pc' := 126) (k := 60) dX12_gift_123 rfl rfl ck_13 (by decide) fl_X12_426 rfl (hG) ?_
                        refine g_iconstN (n := 1) (pc' := 127) dX12_gift_126 rfl ?_
                        refine g_iaddN (pc' := 128) dX12_gift_127 rfl ?_
                        refine g_putI (pc' := 131) (k := 60) dX12_gift_128 rfl rfl ck_13 (by decide) fl_X12_426 rfl rfl rfl rfl ?_
                        refine g_iconstN (n := 1) (pc' := 132) dX12_gift_131 rfl ?_
                        refine g_zret dX12_gift_132 rfl (by rfl) (by decide) (by decide) ?_
                        have e : sGift (mo h) (nI t) g n = (1, stU (stU (stU (stU (mo h) 167 (nGf (mo h)) (nI t)) 168 (nGf (mo h)) g) 169 (nGf (mo h)) n) 1 60 (nI (nGf (mo h) + 1))) := cif_t ⟨c6, c14, c26, ⟨fun _ => c44, fun _ => c57, fun _ => c69, fun _ => c86⟩⟩
                        rw [e]
                        exact ⟨rfl, by rw [mo_wF (j := 60) rfl, mo_wI (s := 169) rfl, mo_wI (s := 168) rfl, mo_wI (s := 167) rfl] <;> rfl, ((((Mk.rf h).w (Or.inr (by decide))).w (Or.inr (by decide))).w (Or.inr (by decide))).w (Or.inl rfl)⟩
                      ·
                        refine g_iconstN (n := 0) (pc' := 90) dX12_gift_89 rfl ?_
                        refine g_zret dX12_gift_90 rfl (by rfl) (by decide) (by decide) ?_
                        have e : sGift (mo h) (nI t) g n = (0, mo h) := cif_f (fun z => c86 (z.2.2.2.2.2.2 c74))
                        rw [e]
                        exact ⟨rfl, rfl, Mk.rf h⟩
      ·
        refine g_iconstN (n := 0) (pc' := 30) dX12_gift_29 rfl ?_
        refine g_zret dX12_gift_30 rfl (by rfl) (by decide) (by decide) ?_
        have e : sGift (mo h) (nI t) g n = (0, mo h) := cif_f (fun z => c26 z.2.2.1)
        rw [e]
        exact ⟨rfl, rfl, Mk.rf h⟩
