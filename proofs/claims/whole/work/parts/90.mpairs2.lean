theorem mo_vp {h h' : Hp} (k : VP h h') : mo h' = mo h := mo_same (fun b q => k.2 b (fun z => by rw [z] at q; exact q rfl))
set_option maxRecDepth 4000 in
theorem lm_pE {E : En} (hok : EOK E) {h h0 : Hp} (hs0 : Shp h.2) (hw : Wf (mo h)) {S : Nat} (hS6 : cnt (tb S) (nT (mo h)) ≤ 6) {v : Int32} {d : Nat} (hd : 1 ≤ d) {Q : Option V → Hp → Prop} {F : Nat} (pr : PR (p2 (cnt (tb S) (nT (mo h)))) (PF (Ac h0) F (nT (mo h)) S) h) (hQ : ∀ m, mxI (Ac h0) F (nT (mo h)) S (p2 (cnt (tb S) (nT (mo h)))) m → Q (some (vI (nI m))) h) : ∀ c x m, x ≤ (p2 (cnt (tb S) (nT (mo h)))) → (p2 (cnt (tb S) (nT (mo h)))) - x = c → m ≤ 16 → mxI (Ac h0) F (nT (mo h)) S x m → G E m_X12_pairsOf d 0 0 Q h0 182 [some (vR MO), some (vI (nI S)), some (vI v), some (vI (nI (cnt (tb S) (nT (mo h))))), some (vI (nI m)), some (vI (nI x)), none, none] [] h 0 0 := by
  have hNw : h.1 MO 2 = nI (nW (mo h)) := hw.w.1
  have hNwb := hw.w.2
  have hC : h.1 MO 30 = nI (nC (mo h)) := hw.c.1
  have hCb := hw.c.2
  have hK : h.1 MO 3 = nI (nK (mo h)) := hw.k.1
  have hKb := hw.k.2
  have hT : h.1 MO 4 = nI (nT (mo h)) := hw.t.1
  have hTb := hw.t.2
  have hF : h.1 MO 5 = nI (nF (mo h)) := hw.f.1
  have hFb := hw.f.2
  have hRc : h.1 MO 59 = nI (nR (mo h)) := hw.r.1
  have hRb := hw.r.2
  have hG : h.1 MO 60 = nI (nGf (mo h)) := hw.g.1
  have hGb := hw.g.2
  have hA : h.1 MO 70 = nI (nA (mo h)) := hw.a.1
  have hAb := hw.a.2
  have hTl : h.1 MO 1 = nI (nTl (mo h)) := hw.tl.1
  have hTlb := hw.tl.2
  have hN : (p2 (cnt (tb S) (nT (mo h)))) ≤ 64 := p2_le (b := 6) hS6
  have hs := hs0
  intro c
  induction c with
  | zero =>
    intro x m h1 h2 hm mi
    refine g_iload (pc' := 184) dX12_pairsOf_182 rfl rfl ?_
    refine g_iconstN (n := 1) (pc' := 185) dX12_pairsOf_184 rfl ?_
    refine g_iload_n (pc' := 186) dX12_pairsOf_185 rfl rfl ?_
    refine g_ishl (pc' := 187) dX12_pairsOf_186 rfl ?_
    rw [shl_p2 (by omega)]
    refine g_icmp_geN (tgt := 228) (pc' := 190) dX12_pairsOf_187 rfl (by decide) (by omega) (by omega) (fun c187 => ?_) (fun c187 => ?_)
    ·
      refine g_iload (pc' := 230) dX12_pairsOf_228 rfl rfl ?_
      refine g_iret dX12_pairsOf_230 rfl (by decide) (by decide) ?_
      have e : x = (p2 (cnt (tb S) (nT (mo h)))) := by omega
      rw [e] at mi
      exact hQ m mi
    · exact absurd c187 (by omega)
  | succ c ih =>
    intro x m h1 h2 hm mi
    have hx : x < (p2 (cnt (tb S) (nT (mo h)))) := by omega
    have ec : cnt (tb x) 16 = cnt (tb x) (cnt (tb S) (nT (mo h))) := cnt_hi hx (by omega)
    have hc16 := cnt_le (tb x) 16
    refine g_iload (pc' := 184) dX12_pairsOf_182 rfl rfl ?_
    refine g_iconstN (n := 1) (pc' := 185) dX12_pairsOf_184 rfl ?_
    refine g_iload_n (pc' := 186) dX12_pairsOf_185 rfl rfl ?_
    refine g_ishl (pc' := 187) dX12_pairsOf_186 rfl ?_
    rw [shl_p2 (by omega)]
    refine g_icmp_geN (tgt := 228) (pc' := 190) dX12_pairsOf_187 rfl (by decide) (by omega) (by omega) (fun c187 => ?_) (fun c187 => ?_)
    · exact absurd c187 (by omega)
    ·
      refine g_aload_n (pc' := 191) dX12_pairsOf_190 rfl rfl ?_
      refine g_getS (pc' := 194) (k := 89) (b := (189, 0)) dX12_pairsOf_191 rfl rfl ck_13 (by decide) fl_X12_192 rfl hs rfl ?_
      refine g_iload (pc' := 196) dX12_pairsOf_194 rfl rfl ?_
      refine g_zaldN (pc' := 197) (v := bi (PF (Ac h0) F (nT (mo h)) S x)) dX12_pairsOf_196 rfl rfl (by decide) (by omega) (pr x hx) ?_
      refine g_ifB_eq (tgt := 218) (pc' := 200) dX12_pairsOf_197 rfl (by decide) (fun c197 => ?_) (fun c197 => ?_)
      ·
        refine g_iload (pc' := 220) dX12_pairsOf_218 rfl rfl ?_
        refine g_istore (pc' := 222) dX12_pairsOf_220 rfl (by decide) rfl ?_
        try simp only [List.set]
        refine g_iincN (k := 1) (pc' := 225) dX12_pairsOf_222 rfl rfl (by decide) rfl ?_
        try simp only [List.set]
        refine g_goto (tgt := 182) dX12_pairsOf_225 (by decide) ?_
        refine ih (x + 1) _ (by omega) (by omega) (by omega) ⟨mi.1, fun y hy py => ?_⟩
        by_cases z : y = x
        · rw [z] at py; exact absurd py c197
        · exact mi.2 y (by omega) py
      ·
        refine g_iload (pc' := 202) dX12_pairsOf_200 rfl rfl ?_
        refine g_invS (pc' := 205) (cm_sizeOf hok (x := x) (by omega)) dX12_pairsOf_202 rfl ml_X12_531 st_X12_sizeOf in_X12 co_X12_sizeOf pd_X12_sizeOf rfl (by omega) (by decide) ⟨by decide, by decide⟩ (Nat.le_of_ble_eq_true rfl) ?_
        rintro _ _ ⟨rfl, rfl⟩ -
        refine g_iload (pc' := 207) dX12_pairsOf_205 rfl rfl ?_
        refine g_icmp_leN (tgt := 218) (pc' := 210) dX12_pairsOf_207 rfl (by decide) (by omega) (by omega) (fun c207 => ?_) (fun c207 => ?_)
        ·
          refine g_iload (pc' := 220) dX12_pairsOf_218 rfl rfl ?_
          refine g_istore (pc' := 222) dX12_pairsOf_220 rfl (by decide) rfl ?_
          try simp only [List.set]
          refine g_iincN (k := 1) (pc' := 225) dX12_pairsOf_222 rfl rfl (by decide) rfl ?_
          try simp only [List.set]
          refine g_goto (tgt := 182) dX12_pairsOf_225 (by decide) ?_
          refine ih (x + 1) _ (by omega) (by omega) (by omega) ⟨mi.1, fun y hy py => ?_⟩
          by_cases z : y = x
          · rw [z, ← ec]; exact c207
          · exact mi.2 y (by omega) py
        ·
          refine g_iload (pc' := 212) dX12_pairsOf_210 rfl rfl ?_
          refine g_invS (pc' := 215) (cm_sizeOf hok (x := x) (by omega)) dX12_pairsOf_212 rfl ml_X12_531 st_X12_sizeOf in_X12 co_X12_sizeOf pd_X12_sizeOf rfl (by omega) (by decide) ⟨by decide, by decide⟩ (Nat.le_of_ble_eq_true rfl) ?_
          rintro _ _ ⟨rfl, rfl⟩ -
          refine g_goto (tgt := 220) dX12_pairsOf_215 (by decide) ?_
          refine g_istore (pc' := 222) dX12_pairsOf_220 rfl (by decide) rfl ?_
          try simp only [List.set]
          refine g_iincN (k := 1) (pc' := 225) dX12_pairsOf_222 rfl rfl (by decide) rfl ?_
          try simp only [List.set]
          refine g_goto (tgt := 182) dX12_pairsOf_225 (by decide) ?_
          refine ih (x + 1) _ (by omega) (by omega) (by omega) ⟨⟨x, hx, c197, ec.symm⟩, fun y hy py => ?_⟩
          by_cases z : y = x
          · rw [z, ← ec]; exact Nat.le_refl _
          · have := mi.2 y (by omega) py
            omega
set_option maxRecDepth 4000 in
theorem lm_pA {E : En} (hok : EOK E) {h h0 : Hp} (hs0 : Shp h.2) (hw : Wf (mo h)) {S : Nat} (hS6 : cnt (tb S) (nT (mo h)) ≤ 6) {v : Int32} {d : Nat} (hd : 1 ≤ d) {Q : Option V → Hp → Prop} (hQ : G E m_X12_pairsOf d 0 0 Q h0 39 [some (vR MO), some (vI (nI S)), some (vI v), some (vI (nI (cnt (tb S) (nT (mo h))))), none, none, none, none] [] (wN h (189, 0) 0 (fun x => bi (x = 0)) (p2 (cnt (tb S) (nT (mo h))))) 0 0) : ∀ c x, x ≤ (p2 (cnt (tb S) (nT (mo h)))) → (p2 (cnt (tb S) (nT (mo h)))) - x = c → G E m_X12_pairsOf d 0 0 Q h0 8 [some (vR MO), some (vI (nI S)), some (vI v), some (vI (nI (cnt (tb S) (nT (mo h))))), some (vI (nI x)), none, none, none] [] (wN h (189, 0) 0 (fun x => bi (x = 0)) x) 0 0 := by
  have hNw : h.1 MO 2 = nI (nW (mo h)) := hw.w.1
  have hNwb := hw.w.2
  have hC : h.1 MO 30 = nI (nC (mo h)) := hw.c.1
  have hCb := hw.c.2
  have hK : h.1 MO 3 = nI (nK (mo h)) := hw.k.1
  have hKb := hw.k.2
  have hT : h.1 MO 4 = nI (nT (mo h)) := hw.t.1
  have hTb := hw.t.2
  have hF : h.1 MO 5 = nI (nF (mo h)) := hw.f.1
  have hFb := hw.f.2
  have hRc : h.1 MO 59 = nI (nR (mo h)) := hw.r.1
  have hRb := hw.r.2
  have hG : h.1 MO 60 = nI (nGf (mo h)) := hw.g.1
  have hGb := hw.g.2
  have hA : h.1 MO 70 = nI (nA (mo h)) := hw.a.1
  have hAb := hw.a.2
  have hTl : h.1 MO 1 = nI (nTl (mo h)) := hw.tl.1
  have hTlb := hw.tl.2
  have hN : (p2 (cnt (tb S) (nT (mo h)))) ≤ 64 := p2_le (b := 6) hS6
  intro c
  induction c with
  | zero =>
    intro x h1 h2
    have hs : Shp (wN h (189, 0) 0 (fun x => bi (x = 0)) x).2 := by rw [wN_2]; exact hs0
    refine g_iload (pc' := 10) dX12_pairsOf_8 rfl rfl ?_
    refine g_iconstN (n := 1) (pc' := 11) dX12_pairsOf_10 rfl ?_
    refine g_iload_n (pc' := 12) dX12_pairsOf_11 rfl rfl ?_
    refine g_ishl (pc' := 13) dX12_pairsOf_12 rfl ?_
    rw [shl_p2 (by omega)]
    refine g_icmp_geN (tgt := 39) (pc' := 16) dX12_pairsOf_13 rfl (by decide) (by omega) (by omega) (fun c13 => ?_) (fun c13 => ?_)
    ·
      have e : x = (p2 (cnt (tb S) (nT (mo h)))) := by omega
      subst e
      refine G.drop 4 ?_
      simp only [List.set]
      exact hQ
    · exact absurd c13 (by omega)
  | succ c ih =>
    intro x h1 h2
    have hs : Shp (wN h (189, 0) 0 (fun x => bi (x = 0)) x).2 := by rw [wN_2]; exact hs0
    refine g_iload (pc' := 10) dX12_pairsOf_8 rfl rfl ?_
    refine g_iconstN (n := 1) (pc' := 11) dX12_pairsOf_10 rfl ?_
    refine g_iload_n (pc' := 12) dX12_pairsOf_11 rfl rfl ?_
    refine g_ishl (pc' := 13) dX12_pairsOf_12 rfl ?_
    rw [shl_p2 (by omega)]
    refine g_icmp_geN (tgt := 39) (pc' := 16) dX12_pairsOf_13 rfl (by decide) (by omega) (by omega) (fun c13 => ?_) (fun c13 => ?_)
    · exact absurd c13 (by omega)
    ·
      refine g_aload_n (pc' := 17) dX12_pairsOf_16 rfl rfl ?_
      refine g_getS (pc' := 20) (k := 89) (b := (189, 0)) dX12_pairsOf_17 rfl rfl ck_13 (by decide) fl_X12_192 rfl hs rfl ?_
      refine g_iload (pc' := 22) dX12_pairsOf_20 rfl rfl ?_
      refine g_iload (pc' := 24) dX12_pairsOf_22 rfl rfl ?_
      refine g_if_neN (tgt := 31) (pc' := 27) dX12_pairsOf_24 rfl (by decide) (by omega) (fun c24 => ?_) (fun c24 => ?_)
      ·
        refine g_iconstN (n := 0) (pc' := 32) dX12_pairsOf_31 rfl ?_
        refine g_zastN (pc' := 33) dX12_pairsOf_32 rfl rfl (by decide) (by omega) ?_
        refine g_iincN (k := 1) (pc' := 36) dX12_pairsOf_33 rfl rfl (by decide) rfl ?_
        try simp only [List.set]
        refine g_goto (tgt := 8) dX12_pairsOf_36 (by decide) ?_
        have q := ih (x + 1) (by omega) (by omega)
        rw [wN_0s, show bi (x = 0) = nI 0 from bi_f c24] at q
        exact q
      ·
        refine g_iconstN (n := 1) (pc' := 28) dX12_pairsOf_27 rfl ?_
        refine g_goto (tgt := 32) dX12_pairsOf_28 (by decide) ?_
        refine g_zastN (pc' := 33) dX12_pairsOf_32 rfl rfl (by decide) (by omega) ?_
        refine g_iincN (k := 1) (pc' := 36) dX12_pairsOf_33 rfl rfl (by decide) rfl ?_
        try simp only [List.set]
        refine g_goto (tgt := 8) dX12_pairsOf_36 (by decide) ?_
        have q := ih (x + 1) (by omega) (by omega)
        rw [wN_0s, show bi (x = 0) = nI 1 from bi_t c24] at q
        exact q
set_option maxRecDepth 4000 in
theorem cm_pairsOf {E : En} (hok : EOK E) {h : Hp} (hs : Shp h.2) (hw : Wf (mo h)) {S : Nat} (hSp : S < p2 (nT (mo h))) (hS6 : cnt (tb S) (nT (mo h)) ≤ 6) {v : Int32} (hcv : ∀ f, f < nF (mo h) → ¬ h.1 (128, 0) f = v → h.1 (190, 0) f = 0) : Call E m_X12_pairsOf 1 0 0 [vR MO, vI (nI S), vI v] h (fun r h' => r = some (vI (nI (mx (Ac h) (nF (mo h)) (nT (mo h)) (tb S)))) ∧ VP h h') := by
  have hTb := hw.t.2
  have hS16 : S < 65536 := Nat.lt_of_lt_of_le hSp (p2_16 (by omega))
  have e16 : cnt (tb S) 16 = cnt (tb S) (nT (mo h)) := cnt_hi hSp (by omega)
  refine Call.enter hok (by decide) (Nat.le_of_ble_eq_true rfl) ?_
  show G E m_X12_pairsOf 1 0 0 _ h 0 [some (vR MO), some (vI (nI S)), some (vI v), none, none, none, none, none] [] h 0 0
  refine g_iload_n (pc' := 1) dX12_pairsOf_0 rfl rfl ?_
  refine g_invS (pc' := 4) (cm_sizeOf hok (x := S) (by omega)) dX12_pairsOf_1 rfl ml_X12_531 st_X12_sizeOf in_X12 co_X12_sizeOf pd_X12_sizeOf rfl (by omega) (by decide) ⟨by decide, by decide⟩ (Nat.le_of_ble_eq_true rfl) ?_
  rintro _ _ ⟨rfl, rfl⟩ -
  rw [e16]
  refine g_istore_n (pc' := 5) dX12_pairsOf_4 rfl (by decide) rfl ?_
  try simp only [List.set]
  refine g_iconstN (n := 0) (pc' := 6) dX12_pairsOf_5 rfl ?_
  refine g_istore (pc' := 8) dX12_pairsOf_6 rfl (by decide) rfl ?_
  try simp only [List.set]
  refine lm_pA hok hs hw hS6 (Nat.le_refl 1) ?_ _ 0 (Nat.zero_le _) rfl
  refine g_iconstN (n := 0) (pc' := 40) dX12_pairsOf_39 rfl ?_
  refine g_istore (pc' := 42) dX12_pairsOf_40 rfl (by decide) rfl ?_
  try simp only [List.set]
  have eo : ∀ q : Ad, q ≠ (189, 0) → (wN h (189, 0) 0 (fun x => bi (x = 0)) (p2 (cnt (tb S) (nT (mo h))))).1 q = h.1 q := fun q z => wN_off _ _ _ _ z _
  have e2 : (wN h (189, 0) 0 (fun x => bi (x = 0)) (p2 (cnt (tb S) (nT (mo h))))).2 = h.2 := wN_2 _ _ _ _ _
  refine lm_pB hok hs hw hS6 (Nat.le_refl 1) hcv (fun h3 v3 p3 => ?_) _ 0 _ (Nat.zero_le _) rfl ⟨e2, eo⟩ (fun y hy => ?_)
  ·
    refine g_iconstN (n := 0) (pc' := 177) dX12_pairsOf_176 rfl ?_
    refine g_istore (pc' := 179) dX12_pairsOf_177 rfl (by decide) rfl ?_
    try simp only [List.set]
    refine g_iconstN (n := 0) (pc' := 180) dX12_pairsOf_179 rfl ?_
    refine g_istore (pc' := 182) dX12_pairsOf_180 rfl (by decide) rfl ?_
    try simp only [List.set]
    have m3 : mo h3 = mo h := mo_vp v3
    have z0 : ∀ j, ¬ tb 0 j := fun j z => Bool.false_ne_true ((Nat.zero_testBit j).symm.trans z)
    have q := lm_pE (h := h3) (h0 := h) (S := S) (v := v) (d := 1) (F := nF (mo h)) hok (by rw [v3.1]; exact hs) (by rw [m3]; exact hw) (by rw [m3]; exact hS6) (Nat.le_refl 1) (by rw [m3]; exact p3) (Q := fun r h' => r = some (vI (nI (mx (Ac h) (nF (mo h)) (nT (mo h)) (tb S)))) ∧ VP h h') (fun m mi => ⟨by rw [m3] at mi; rw [mxI_end mi], v3⟩) _ 0 0 (Nat.zero_le _) rfl (Nat.zero_le _) ⟨⟨0, p2_pos _, ⟨fun _ => 0, fun t _ u => absurd u.2 (z0 _), fun a b _ _ u => absurd u.2 (z0 _)⟩, cnt_none (fun k _ => z0 k)⟩, fun x hx => absurd hx (Nat.not_lt_zero x)⟩
    rw [m3] at q
    exact q
  · have q := wN_at h (189, 0) 0 (fun x => bi (x = 0)) (p2 (cnt (tb S) (nT (mo h)))) hy
    rw [Nat.zero_add] at q
    rw [q]
    exact bi_iff (pf_0 hy).symm
