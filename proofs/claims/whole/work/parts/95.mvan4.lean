set_option maxRecDepth 4000 in
theorem cm_van {E : En} (hok : EOK E) {h : Hp} (hs : Shp h.2) (hw : Wf (mo h)) {R : Rm} (hR : WR (mo h) R) (v0 : Int32) (n0 : Int32) (x : Int32) : Call E m_X12_van 7 0 0 [vR MO, vI v0, vI n0, vI x] h (fun r h' => r = some (vI (sVan (mo h) R v0 n0 x).1) ∧ mo h' = (sVan (mo h) R v0 n0 x).2 ∧ Mk h h') := by
  have hNw : h.1 MO 2 = nI (nW (mo h)) := hw.w.1
  have hNwb := hw.w.2
  have hC : h.1 MO 30 = nI (nC (mo h)) := hw.c.1
  have hCb := hw.c.2
  have hK : h.1 MO 3 = nI (nK (mo h)) := hw.k.1
  have hKb := hw.k.2
  have hT : h.1 MO 4 = nI (nT (mo h)) := hw.t.1
  have hTb := hw.t.2
  have hF : h.1 MO 5 = nI (nF (mo h)) := hw.f.1
  have hFb := hw.f.2
  have hRc : h.1 MO 59 = nI (nR (mo h)) := hw.r.1
  have hRb := hw.r.2
  have hG : h.1 MO 60 = nI (nGf (mo h)) := hw.g.1
  have hGb := hw.g.2
  have hA : h.1 MO 70 = nI (nA (mo h)) := hw.a.1
  have hAb := hw.a.2
  have hTl : h.1 MO 1 = nI (nTl (mo h)) := hw.tl.1
  have hTlb := hw.tl.2
  refine Call.enter hok (by decide) (Nat.le_of_ble_eq_true rfl) ?_
  show G E m_X12_van 7 0 0 _ h 0 [some (vR MO), some (vI v0), some (vI n0), some (vI x), none, none, none, none, none] [] h 0 0
  refine g_iload_n (pc' := 1) dX12_van_0 rfl rfl ?_
  refine g_i2l (pc' := 2) dX12_van_1 rfl ?_
  refine g_lconst (v := 0) (pc' := 3) dX12_van_2 rfl rfl ?_
  refine g_ldc2 (pc' := 6) dX12_van_3 rfl kc_X12_243 ?_
  refine g_invS (pc' := 9) (c_liesI hok _ (0) (4) rfl (by decide) (by decide)) dX12_van_6 rfl ml_X12_203 st_X12_lies in_X12 co_X12_lies pd_X12_lies rfl (by omega) (by decide) ⟨by decide, by decide⟩ (Nat.le_of_ble_eq_true rfl) ?_
  rintro _ _ ⟨rfl, rfl⟩ -
  refine g_ifB_eq (tgt := 34) (pc' := 12) dX12_van_9 rfl (by decide) (fun c9 => ?_) (fun c9 => ?_)
  ·
    refine g_iconst (v := -1) (pc' := 35) dX12_van_34 rfl (by decide) ?_
    refine g_iret dX12_van_35 rfl (by decide) (by decide) ?_
    have e : sVan (mo h) R v0 n0 x = (-1, mo h) := cif_f (fun z => c9 z.1)
    rw [e]
    exact ⟨rfl, rfl, Mk.rf h⟩
  ·
    refine g_iload_n (pc' := 13) dX12_van_12 rfl rfl ?_
    refine g_i2l (pc' := 14) dX12_van_13 rfl ?_
    refine g_lconst (v := 1) (pc' := 15) dX12_van_14 rfl rfl ?_
    refine g_ldc2 (pc' := 18) dX12_van_15 rfl kc_X12_237 ?_
    refine g_invS (pc' := 21) (c_liesI hok _ (1) (6) rfl (by decide) (by decide)) dX12_van_18 rfl ml_X12_203 st_X12_lies in_X12 co_X12_lies pd_X12_lies rfl (by omega) (by decide) ⟨by decide, by decide⟩ (Nat.le_of_ble_eq_true rfl) ?_
    rintro _ _ ⟨rfl, rfl⟩ -
    refine g_ifB_eq (tgt := 34) (pc' := 24) dX12_van_21 rfl (by decide) (fun c21 => ?_) (fun c21 => ?_)
    ·
      refine g_iconst (v := -1) (pc' := 35) dX12_van_34 rfl (by decide) ?_
      refine g_iret dX12_van_35 rfl (by decide) (by decide) ?_
      have e : sVan (mo h) R v0 n0 x = (-1, mo h) := cif_f (fun z => c21 z.2.1)
      rw [e]
      exact ⟨rfl, rfl, Mk.rf h⟩
    ·
      obtain ⟨n, hn6, rfl⟩ := one_6 c21
      refine g_iload_n (pc' := 25) dX12_van_24 rfl rfl ?_
      refine g_i2l (pc' := 26) dX12_van_25 rfl ?_
      refine g_lconst (v := 0) (pc' := 27) dX12_van_26 rfl rfl ?_
      refine g_lconst (v := 1) (pc' := 28) dX12_van_27 rfl rfl ?_
      refine g_invS (pc' := 31) (c_liesI hok _ (0) (1) rfl (by decide) (by decide)) dX12_van_28 rfl ml_X12_203 st_X12_lies in_X12 co_X12_lies pd_X12_lies rfl (by omega) (by decide) ⟨by decide, by decide⟩ (Nat.le_of_ble_eq_true rfl) ?_
      rintro _ _ ⟨rfl, rfl⟩ -
      refine g_ifB_ne (tgt := 36) (pc' := 34) dX12_van_31 rfl (by decide) (fun c31 => ?_) (fun c31 => ?_)
      ·
        refine g_iconstN (n := 0) (pc' := 37) dX12_van_36 rfl ?_
        refine g_istore (pc' := 39) dX12_van_37 rfl (by decide) rfl ?_
        try simp only [List.set]
        refine g_iconstN (n := 0) (pc' := 40) dX12_van_39 rfl ?_
        refine g_istore (pc' := 42) dX12_van_40 rfl (by decide) rfl ?_
        try simp only [List.set]
        have e : sVan (mo h) R v0 (nI n) x = (vnA (mo h) R v0 n x, mo h) := by unfold sVan; simp only [nI_clamp (show n < 2 ^ 31 by omega)]; exact cif_t ⟨c9, c21, c31⟩
        rw [e]
        refine lm_vC (m := mo h) (hb := h) hok hs hw hR (Nat.le_refl 7) (fun h2 m2 k2 cm2 => ?_) _ 0 h (Nat.zero_le _) rfl rfl (Mk.rf h) (fun g hg => absurd hg (Nat.not_lt_zero g))
        refine g_iconstN (n := 0) (pc' := 158) dX12_van_157 rfl ?_
        refine g_istore (pc' := 160) dX12_van_158 rfl (by decide) rfl ?_
        try simp only [List.set]
        refine g_iconstN (n := 0) (pc' := 161) dX12_van_160 rfl ?_
        refine g_istore (pc' := 163) dX12_van_161 rfl (by decide) rfl ?_
        try simp only [List.set]
        refine g_iconstN (n := 1) (pc' := 164) dX12_van_163 rfl ?_
        refine g_istore (pc' := 166) dX12_van_164 rfl (by decide) rfl ?_
        try simp only [List.set]
        have z0 : ∀ j, ¬ tb 0 j := fun j z => Bool.false_ne_true ((Nat.zero_testBit j).symm.trans z)
        have c0 : cnt (tb 0) (nT (mo h)) = 0 := cnt_none (fun k _ => z0 k)
        have x0 : mx (vA (mo h) R v0) 10 (nT (mo h)) (tb 0) = 0 := by
          have := mx_le (vA (mo h) R v0) 10 (nT (mo h)) (tb 0)
          omega
        have hK : ∀ h3 best, mo h3 = mo h → Mk h h3 → isO (vA (mo h) R v0) 10 (nT (mo h)) n best → G E m_X12_van 7 0 0 (fun r h' => r = some (vI (vnA (mo h) R v0 n x, mo h).1) ∧ mo h' = (vnA (mo h) R v0 n x, mo h).2 ∧ Mk h h') h 252 [some (vR MO), some (vI v0), some (vI (nI n)), some (vI x), some (vI (orr (fun g => cdM (mo h) R v0 g (nT (mo h))) (nF (mo h)))), some (vI (nI best)), some (vI (nI (mx (vA (mo h) R v0) 10 (nT (mo h)) (tb best)))), none, none] [] h3 0 0 := by
          intro h3 best m3 k3 i3
          have ex : vnX (mo h) R v0 n = best := vnO_of i3
          refine g_iload_n (pc' := 253) dX12_van_252 rfl rfl ?_
          refine g_if_ne (tgt := 261) (pc' := 256) dX12_van_253 rfl (by decide) (fun c253 => ?_) (fun c253 => ?_)
          ·
            refine g_iload (pc' := 263) dX12_van_261 rfl rfl ?_
            refine g_iret dX12_van_263 rfl (by decide) (by decide) ?_
            refine ⟨congrArg (fun z : Int32 => some (vI z)) (show _ = vnA (mo h) R v0 n x from ((cif_f c253).trans (by rw [ex])).symm), m3, k3⟩
          ·
            refine g_iload (pc' := 258) dX12_van_256 rfl rfl ?_
            refine g_goto (tgt := 263) dX12_van_258 (by decide) ?_
            refine g_iret dX12_van_263 rfl (by decide) (by decide) ?_
            refine ⟨congrArg (fun z : Int32 => some (vI z)) (show _ = vnA (mo h) R v0 n x from ((cif_t c253).trans (by rw [ex])).symm), m3, k3⟩
        have q := lm_vE (m := mo h) (hb := h) (R := R) hok hs hw hn6.2 (Nat.le_refl 7) hK _ 1 0 h2 (p2_pos _) rfl m2 k2 cm2 (by decide) ⟨p2_pos _, by omega, fun t _ z => absurd z (z0 t)⟩ (fun y hy _ => by rw [show y = 0 by omega]; exact Or.inr ⟨rfl, Or.inr ⟨rfl, Nat.le_refl _⟩⟩)
        rw [x0] at q
        exact q
      ·
        refine g_iconst (v := -1) (pc' := 35) dX12_van_34 rfl (by decide) ?_
        refine g_iret dX12_van_35 rfl (by decide) (by decide) ?_
        have e : sVan (mo h) R v0 (nI n) x = (-1, mo h) := cif_f (fun z => c31 z.2.2)
        rw [e]
        exact ⟨rfl, rfl, Mk.rf h⟩
