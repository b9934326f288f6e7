/-! the reference's rules -/
theorem mo_ar {h : Hp} {s : Nat} (hs : kS s = 2) (j : Nat) : mo h s j = h.1 (s, 0) j := by rw [mo_2 hs]
/-- new rules stand, with their codes -/
theorem RuN.of {h hs hb h1 h2 : Hp} {n K C : Nat} {r : Nat × Nat × Rm × (Nat → Nat)} (eK : r.2.1 = K) (hK : K ≤ 16) (hC : C ≤ n) (hn : n ≤ 200) (es : hs.1 = (wI h MO 1 (nI 0)).1) (mf : MF hs hb) (cl : CLR K r.2.2.1 r.2.2.2 C hb) (q1 : C1P hb K h1) (q2 : C2P h1 C h2) : RuN (mo h) (mo (wI h2 MO 30 (nI K))) r := by
  have far : ∀ a : Ad, a ≠ MO → ¬ (131 ≤ a.1 ∧ a.1 ≤ 142 ∨ a.1 = 152) → (wI h2 MO 30 (nI K)).1 a = h.1 a := fun a z1 z2 => by
    rw [wI_off _ _ _ _ a z1, q2.2.1 a (by omega), q1.2.1 a (by omega), mf.2.1 a z1 (by omega), es, wI_off _ _ _ _ a z1]
  have mof : ∀ j, j ≠ 1 → j ≠ 30 → ¬ (43 ≤ j ∧ j ≤ 51) → (wI h2 MO 30 (nI K)).1 MO j = h.1 MO j := fun j z1 z2 z3 => by
    rw [wI_f z2, q2.2.1 MO (by decide), q1.2.1 MO (by decide), mf.2.2 j z3, es, wI_f z1]
  have m30 : mo (wI h2 MO 30 (nI K)) 1 30 = nI K := (mo_1 rfl).trans (wI_same _ _ _ _)
  have nc : nC (mo (wI h2 MO 30 (nI K))) = K := by unfold nC; rw [m30]; exact nI_clamp (by omega)
  have a1 : ∀ s j, 131 ≤ s → s ≤ 134 → (wI h2 MO 30 (nI K)).1 (s, 0) j = h1.1 (s, 0) j := fun s j z1 z2 => by
    rw [wI_off _ _ _ _ (s, 0) (ad2_ne (by omega)), q2.2.1 (s, 0) (by show ¬ (135 ≤ s ∧ s ≤ 136); omega)]
  refine ⟨fun s z1 z2 => ?_, fun j z1 z2 => ?_, ?_, by rw [m30, eK], fun j hj => ?_, fun k hk => ?_⟩
  · rcases kS_c s with hm | hm | hm
    · rw [mo_0 hm, mo_0 hm]
    · exact absurd (kS_1 hm) z1
    · have q := kS_2 hm
      rw [mo_2 hm, mo_2 hm, far (s, 0) (ad2_ne z1) (by show ¬ (131 ≤ s ∧ s ≤ 142 ∨ s = 152); omega)]
  · cases hc : scr j with
    | true => rw [mo_1s hc, mo_1s hc]
    | false => rw [mo_1 hc, mo_1 hc]; exact mof j z1 z2 (scr_f hc)
  · rw [mo_1 rfl]
    show (wI h2 MO 30 (nI K)).1 MO 1 = 0
    rw [wI_f (by decide), q2.2.1 MO (by decide), q1.2.1 MO (by decide), mf.2.2 1 (by decide), es, wI_same]
    rfl
  · rw [eK] at hj
    rw [mo_ar rfl, a1 131 j (by decide) (by decide), (q1.2.2 j hj).1]
    exact (cl.2 j hj).2.1
  · rw [nc] at hk
    obtain ⟨lc, p0, x, y, z, p1, p2, p3, p4, p5, p6⟩ := cl.2 k hk
    have qk := q1.2.2 k hk
    have cd : ∀ t, t < C → mo (wI h2 MO 30 (nI K)) 135 t = hb.1 (141, 0) t ∧ mo (wI h2 MO 30 (nI K)) 136 t = hb.1 (142, 0) t := fun t ht => by
      rw [mo_ar rfl, mo_ar rfl, wI_off _ _ _ _ (135, 0) (by decide), wI_off _ _ _ _ (136, 0) (by decide), (q2.2.2 t ht).1, (q2.2.2 t ht).2, q1.2.1 (141, 0) (by decide), q1.2.1 (142, 0) (by decide)]
      exact ⟨rfl, rfl⟩
    refine ⟨x, y, z, ?_, ?_, ?_, by omega, p5.congr (Nat.le_refl _) (Nat.le_refl _) (fun t _ ht => (cd t (by omega)).1) (fun t _ ht => (cd t (by omega)).2), fun w => ?_⟩
    · rw [mo_ar rfl, a1 132 k (by decide) (by decide), qk.2.1]; exact p1
    · rw [mo_ar rfl, a1 133 k (by decide) (by decide), qk.2.2.1]; exact p2
    · rw [mo_ar rfl, a1 134 k (by decide) (by decide), qk.2.2.2]; exact p3
    · have e131 : mo (wI h2 MO 30 (nI K)) 131 k = nI (r.2.2.2 k) := by rw [mo_ar rfl, a1 131 k (by decide) (by decide), qk.1]; exact p0
      rw [e131] at w
      have v := p6 ((isV_n lc).mp w)
      exact v.1.congr (Nat.le_refl _) (Nat.le_refl _) (fun t _ ht => (cd t (by omega)).1) (fun t _ ht => (cd t (by omega)).2)
set_option maxRecDepth 4000 in
theorem cm_rules {E : En} (hok : EOK E) {h : Hp} (hs : Shp h.2) (x : Int32) : Call E m_X12_rules 8 0 0 [vR MO, vI x] h (fun r h' => r = some (vI (ruA (mo h) x)) ∧ RuM (mo h) x (mo h') ∧ Mk h h') := by
  refine Call.enter hok (by decide) (Nat.le_of_ble_eq_true rfl) ?_
  show G E m_X12_rules 8 0 0 _ h 0 [some (vR MO), some (vI x), none, none] [] h 0 0
  refine g_iload_n (pc' := 1) dX12_rules_0 rfl rfl ?_
  refine g_i2l (pc' := 2) dX12_rules_1 rfl ?_
  refine g_lconst (v := 1) (pc' := 3) dX12_rules_2 rfl rfl ?_
  refine g_ldc2 (pc' := 6) dX12_rules_3 rfl kc_X12_370 ?_
  refine g_invS (pc' := 9) (c_liesI hok x (nI 1) (nI 200) rfl (by decide) (by decide)) dX12_rules_6 rfl ml_X12_203 st_X12_lies in_X12 co_X12_lies pd_X12_lies rfl (by omega) (by decide) ⟨by decide, by decide⟩ (Nat.le_of_ble_eq_true rfl) ?_
  rintro _ _ ⟨rfl, rfl⟩ -
  refine g_ifB_eq (tgt := 20) (pc' := 12) dX12_rules_9 rfl (by decide) (fun c9 => ?_) (fun c9 => ?_)
  ·
    refine g_iconst (v := -1) (pc' := 21) dX12_rules_20 rfl (by decide) ?_
    refine g_iret dX12_rules_21 rfl (by decide) (by decide) ?_
    exact ⟨congrArg (fun z : Int32 => some (vI z)) (show _ = ruA (mo h) x from (cif_f (fun z => c9 z.1)).symm), ⟨fun _ => rfl, fun z => absurd z (fun z => c9 z.1)⟩, Mk.rf h⟩
  ·
    refine g_iload_n (pc' := 13) dX12_rules_12 rfl rfl ?_
    refine g_aload_n (pc' := 14) dX12_rules_13 rfl rfl ?_
    refine g_getIv (v := mo h 1 1) (pc' := 17) (k := 1) dX12_rules_14 rfl rfl ck_13 (by decide) fl_X12_255 rfl ((mo_1 rfl).symm) ?_
    refine g_icmp_le (tgt := 22) (pc' := 20) dX12_rules_17 rfl (by decide) (fun c17 => ?_) (fun c17 => ?_)
    ·
      obtain ⟨n, hn, rfl⟩ := okN_n c9
      refine g_aload_n (pc' := 23) dX12_rules_22 rfl rfl ?_
      refine g_iconstN (n := 0) (pc' := 24) dX12_rules_23 rfl ?_
      refine g_putI (pc' := 27) (k := 1) dX12_rules_24 rfl rfl ck_13 (by decide) fl_X12_255 rfl rfl rfl rfl ?_
      refine g_aload_n (pc' := 28) dX12_rules_27 rfl rfl ?_
      refine g_iconstN (n := 0) (pc' := 29) dX12_rules_28 rfl ?_
      refine g_putI (pc' := 32) (k := 43) dX12_rules_29 rfl rfl ck_13 (by decide) fl_X12_262 rfl rfl rfl rfl ?_
      refine g_aload_n (pc' := 33) dX12_rules_32 rfl rfl ?_
      refine g_iload_n (pc' := 34) dX12_rules_33 rfl rfl ?_
      refine g_putI (pc' := 37) (k := 44) dX12_rules_34 rfl rfl ck_13 (by decide) fl_X12_265 rfl rfl rfl rfl ?_
      refine g_aload_n (pc' := 38) dX12_rules_37 rfl rfl ?_
      refine g_iconstN (n := 0) (pc' := 39) dX12_rules_38 rfl ?_
      refine g_putI (pc' := 42) (k := 45) dX12_rules_39 rfl rfl ck_13 (by decide) fl_X12_268 rfl rfl rfl rfl ?_
      refine g_aload_n (pc' := 43) dX12_rules_42 rfl rfl ?_
      refine g_iconstN (n := 0) (pc' := 44) dX12_rules_43 rfl ?_
      refine g_putI (pc' := 47) (k := 46) dX12_rules_44 rfl rfl ck_13 (by decide) fl_X12_364 rfl rfl rfl rfl ?_
      refine g_aload_n (pc' := 48) dX12_rules_47 rfl rfl ?_
      refine g_iconstN (n := 0) (pc' := 49) dX12_rules_48 rfl ?_
      refine g_putI (pc' := 52) (k := 47) dX12_rules_49 rfl rfl ck_13 (by decide) fl_X12_275 rfl rfl rfl rfl ?_
      refine g_iconstN (n := 1) (pc' := 53) dX12_rules_52 rfl ?_
      refine g_istore_n (pc' := 54) dX12_rules_53 rfl (by decide) rfl ?_
      try simp only [List.set]
      have hb := rb_HB (m := mo h) hn.2
      have hts : RT (rb (mo h) n) n (wI (wI (wI (wI (wI (wI h MO 1 (nI 0)) MO 43 (nI 0)) MO 44 (nI n)) MO 45 (nI 0)) MO 46 (nI 0)) MO 47 (nI 0)) := ⟨hs, fun j hj => (congrArg (fun z : Int32 => z &&& nI 255) (mo_ar (h := h) (s := 100) rfl j).symm).trans (rb_t hj).1, rfl⟩
      have m0 : mo (wI (wI (wI (wI (wI (wI h MO 1 (nI 0)) MO 43 (nI 0)) MO 44 (nI n)) MO 45 (nI 0)) MO 46 (nI 0)) MO 47 (nI 0)) = stU (mo h) 1 1 0 := by rw [mo_wS rfl, mo_wS rfl, mo_wS rfl, mo_wS rfl, mo_wS rfl, mo_wF rfl]; rfl
      have mk0 : Mk h (wI (wI (wI (wI (wI (wI h MO 1 (nI 0)) MO 43 (nI 0)) MO 44 (nI n)) MO 45 (nI 0)) MO 46 (nI 0)) MO 47 (nI 0)) := ((((((Mk.rf h).w (Or.inl rfl)).w (Or.inl rfl)).w (Or.inl rfl)).w (Or.inl rfl)).w (Or.inl rfl)).w (Or.inl rfl)
      have pr0 := prl_ok hb 17 0 0 (fun _ => (fN 0, fN 0)) (fun _ => 0) (Nat.zero_le n) rfl
      refine ru_loop (hs := (wI (wI (wI (wI (wI (wI h MO 1 (nI 0)) MO 43 (nI 0)) MO 44 (nI n)) MO 45 (nI 0)) MO 46 (nI 0)) MO 47 (nI 0))) hok hb 17 0 0 0 (fun _ => (fN 0, fN 0)) (fun _ => 0) (wI (wI (wI (wI (wI (wI h MO 1 (nI 0)) MO 43 (nI 0)) MO 44 (nI n)) MO 45 (nI 0)) MO 46 (nI 0)) MO 47 (nI 0)) rfl (by decide) (Nat.le_refl _) (Nat.zero_le _) hts rfl rfl rfl ⟨rfl, fun j hj => absurd hj (Nat.not_lt_zero j)⟩ (MF.rf _) (fun e2 hb1 mf hsb hg1 c1 hc1 a47 cl => ?_) (fun e2 hb1 mf e45 => ?_)
      · change (rPr (mo h) n).1 = 0 at e2
        change CLR (rPr (mo h) n).2.1 (rPr (mo h) n).2.2.1 (rPr (mo h) n).2.2.2 c1 hb1 at cl
        have k16 : (rPr (mo h) n).2.1 ≤ 16 := by
          rcases pr0 with z | z
          · exact z.2.1
          · exact absurd e2 z.1
        clear pr0
        have ea : ruA (mo h) (nI n) = nI (rPr (mo h) n).2.1 := by unfold ruA; rw [cif_t ⟨c9, c17⟩, nI_clamp (by omega), cif_t e2]
        have mfb : MF (wI h MO 1 (nI 0)) hb1 := MF.tr ((((((MF.rf _).f (show 43 ≤ 43 ∧ 43 ≤ 51 by decide)).f (show 43 ≤ 44 ∧ 44 ≤ 51 by decide)).f (show 43 ≤ 45 ∧ 45 ≤ 51 by decide)).f (show 43 ≤ 46 ∧ 46 ≤ 51 by decide)).f (show 43 ≤ 47 ∧ 47 ≤ 51 by decide)) mf
        refine g_aload_n (pc' := 129) dX12_rules_128 rfl rfl ?_
        refine g_getIv (v := 0) (pc' := 132) (k := 45) dX12_rules_129 rfl rfl ck_13 (by decide) fl_X12_268 rfl (hg1) ?_
        refine g_if_ge (tgt := 140) (pc' := 135) dX12_rules_132 rfl (by decide) (fun c132 => ?_) (fun c132 => ?_)
        ·
          refine g_iconstN (n := 0) (pc' := 141) dX12_rules_140 rfl ?_
          refine g_istore_n (pc' := 142) dX12_rules_141 rfl (by decide) rfl ?_
          try simp only [List.set]
          refine cp_1 hok k16 hsb cl.1 (fun h1 q1 => ?_) _ 0 hb1 (Nat.zero_le _) rfl ⟨rfl, fun _ _ => rfl, fun j hj => absurd hj (Nat.not_lt_zero j)⟩
          have e47 : h1.1 MO 47 = nI c1 := by rw [q1.2.1 MO (by decide)]; exact a47
          have e46 : h1.1 MO 46 = nI (rPr (mo h) n).2.1 := by rw [q1.2.1 MO (by decide)]; exact cl.1
          have hs1 : Shp h1.2 := by rw [q1.1]; exact hsb
          refine g_iconstN (n := 0) (pc' := 205) dX12_rules_204 rfl ?_
          refine g_istore_n (pc' := 206) dX12_rules_205 rfl (by decide) rfl ?_
          try simp only [List.set]
          refine cp_2 hok (by omega) hs1 e47 (fun h2 q2 => ?_) _ 0 h1 (Nat.zero_le _) rfl ⟨rfl, fun _ _ => rfl, fun j hj => absurd hj (Nat.not_lt_zero j)⟩
          have e46b : h2.1 MO 46 = nI (rPr (mo h) n).2.1 := by rw [q2.2.1 MO (by decide)]; exact e46
          refine g_aload_n (pc' := 245) dX12_rules_244 rfl rfl ?_
          refine g_aload_n (pc' := 246) dX12_rules_245 rfl rfl ?_
          refine g_getIv (v := nI ((rPr (mo h) n).2.1)) (pc' := 249) (k := 46) dX12_rules_246 rfl rfl ck_13 (by decide) fl_X12_364 rfl (e46b) ?_
          refine g_putI (pc' := 252) (k := 30) dX12_rules_249 rfl rfl ck_13 (by decide) fl_X12_375 rfl rfl rfl rfl ?_
          refine g_aload_n (pc' := 253) dX12_rules_252 rfl rfl ?_
          refine g_getIv (v := nI ((rPr (mo h) n).2.1)) (pc' := 256) (k := 30) dX12_rules_253 rfl rfl ck_13 (by decide) fl_X12_375 rfl (wI_same _ _ _ _) ?_
          refine g_iret dX12_rules_256 rfl (by decide) (by decide) ?_
          refine ⟨congrArg (fun z : Int32 => some (vI z)) ea.symm, ⟨fun z => absurd ⟨c9, c17⟩ z, fun _ => ?_⟩, ?_⟩
          · rw [nI_clamp (by omega)]
            exact ⟨fun z => absurd e2 z, fun _ => RuN.of rfl k16 hc1 hn.2 rfl mfb cl q1 q2⟩
          · refine (mk0.tr mf.mk).tr ⟨q2.1.trans q1.1, fun a z1 z2 => ?_⟩
            rw [wI_off _ _ _ _ a (fun z => z1 (by rw [z])), q2.2.1 a (by omega), q1.2.1 a (by omega)]
        · exact absurd (by decide) c132
      · change ¬ (rPr (mo h) n).1 = 0 at e2
        change hb1.1 MO 45 = bdv (rPr (mo h) n).1 (rPr (mo h) n).2.1 at e45
        have hpr : (rPr (mo h) n).1 ≤ 9 ∧ (rPr (mo h) n).2.1 ≤ n := by
          rcases pr0 with z | z
          · exact absurd z.1 e2
          · exact z.2
        clear pr0
        have ea : ruA (mo h) (nI n) = bdv (rPr (mo h) n).1 (rPr (mo h) n).2.1 := by unfold ruA; rw [cif_t ⟨c9, c17⟩, nI_clamp (by omega), cif_f e2]
        refine g_aload_n (pc' := 129) dX12_rules_128 rfl rfl ?_
        refine g_getIv (v := bdv (rPr (mo h) n).1 (rPr (mo h) n).2.1) (pc' := 132) (k := 45) dX12_rules_129 rfl rfl ck_13 (by decide) fl_X12_268 rfl (e45) ?_
        refine g_if_ge (tgt := 140) (pc' := 135) dX12_rules_132 rfl (by decide) (fun c132 => ?_) (fun c132 => ?_)
        · exact absurd c132 (Int32.not_le.mpr (bdv_neg (by omega) hpr.1 (by omega)))
        ·
          refine g_aload_n (pc' := 136) dX12_rules_135 rfl rfl ?_
          refine g_getIv (v := bdv (rPr (mo h) n).1 (rPr (mo h) n).2.1) (pc' := 139) (k := 45) dX12_rules_136 rfl rfl ck_13 (by decide) fl_X12_268 rfl (e45) ?_
          refine g_iret dX12_rules_139 rfl (by decide) (by decide) ?_
          refine ⟨congrArg (fun z : Int32 => some (vI z)) ea.symm, ⟨fun z => absurd ⟨c9, c17⟩ z, fun _ => ?_⟩, mk0.tr mf.mk⟩
          rw [nI_clamp (by omega)]
          exact ⟨fun _ => (mf.mo).trans m0, fun z => absurd z e2⟩
    ·
      refine g_iconst (v := -1) (pc' := 21) dX12_rules_20 rfl (by decide) ?_
      refine g_iret dX12_rules_21 rfl (by decide) (by decide) ?_
      exact ⟨congrArg (fun z : Int32 => some (vI z)) (show _ = ruA (mo h) x from (cif_f (fun z => c17 z.2)).symm), ⟨fun _ => rfl, fun z => absurd z (fun z => c17 z.2)⟩, Mk.rf h⟩
