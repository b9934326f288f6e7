theorem fa_wide_le' (a b : Int32) : a.toInt64 ≤ b.toInt64 ↔ a ≤ b := by
  rw [Int64.le_iff_toInt_le, Int32.le_iff_toInt_le, Int32.toInt_toInt64, Int32.toInt_toInt64]
theorem lg_lt (x y : Int64) : (lg_cmp x y < 0) ↔ ¬ y ≤ x := by rw [← lg_cmp_ge, Int32.not_le]
theorem lg_gt (x y : Int64) : (0 < lg_cmp x y) ↔ ¬ x ≤ y := by rw [← lg_cmp_le, Int32.not_le]
set_option maxRecDepth 4000 in
theorem c_lies {E : En} (hok : EOK E) {h : Hp} (x a b : Int64) : Fn E m_X12_lies 0 [vL x, vL a, vL b] h (vI (bi (a ≤ x ∧ x ≤ b))) := by
  refine Call.enter hok (by decide) (Nat.le_of_ble_eq_true rfl) ?_
  show G E m_X12_lies 0 0 0 _ h 0 [some (vL x), none, some (vL a), none, some (vL b), none] [] h 0 0
  refine g_lload_n (pc' := 1) dX12_lies_0 rfl rfl ?_
  refine g_lload_n (pc' := 2) dX12_lies_1 rfl rfl ?_
  refine g_lcmp (pc' := 3) dX12_lies_2 rfl ?_
  refine g_if_lt (tgt := 17) (pc' := 6) dX12_lies_3 rfl (by decide) (fun c3 => ?_) (fun c3 => ?_)
  ·
    refine g_iconstN (n := 0) (pc' := 18) dX12_lies_17 rfl ?_
    refine g_zret dX12_lies_18 rfl (by rfl) (by decide) (by decide) ?_
    try simp only [lg_cmp_ge, lg_cmp_le, lg_lt, lg_gt] at c3
    try simp only [lg_cmp_ge, lg_cmp_le, lg_lt, lg_gt] at c10
    refine ⟨congrArg (fun z : Int32 => some (vI z)) ?_, rfl⟩
    first | (rw [bi_t (by first | omega | (simp only [Int32.le_iff_toInt_le, Int32.lt_iff_toInt_lt, ← Int32.toInt_inj, Int64.le_iff_toInt_le] at *; omega) | (simp_all; done))]; rfl) | (rw [bi_f (by first | omega | (simp only [Int32.le_iff_toInt_le, Int32.lt_iff_toInt_lt, ← Int32.toInt_inj, Int64.le_iff_toInt_le] at *; omega) | (simp_all; done))]; rfl)
  ·
    refine g_lload_n (pc' := 7) dX12_lies_6 rfl rfl ?_
    refine g_lload (pc' := 9) dX12_lies_7 rfl rfl ?_
    refine g_lcmp (pc' := 10) dX12_lies_9 rfl ?_
    refine g_if_gt (tgt := 17) (pc' := 13) dX12_lies_10 rfl (by decide) (fun c10 => ?_) (fun c10 => ?_)
    ·
      refine g_iconstN (n := 0) (pc' := 18) dX12_lies_17 rfl ?_
      refine g_zret dX12_lies_18 rfl (by rfl) (by decide) (by decide) ?_
      try simp only [lg_cmp_ge, lg_cmp_le, lg_lt, lg_gt] at c3
      try simp only [lg_cmp_ge, lg_cmp_le, lg_lt, lg_gt] at c10
      refine ⟨congrArg (fun z : Int32 => some (vI z)) ?_, rfl⟩
      first | (rw [bi_t (by first | omega | (simp only [Int32.le_iff_toInt_le, Int32.lt_iff_toInt_lt, ← Int32.toInt_inj, Int64.le_iff_toInt_le] at *; omega) | (simp_all; done))]; rfl) | (rw [bi_f (by first | omega | (simp only [Int32.le_iff_toInt_le, Int32.lt_iff_toInt_lt, ← Int32.toInt_inj, Int64.le_iff_toInt_le] at *; omega) | (simp_all; done))]; rfl)
    ·
      refine g_iconstN (n := 1) (pc' := 14) dX12_lies_13 rfl ?_
      refine g_goto (tgt := 18) dX12_lies_14 (by decide) ?_
      refine g_zret dX12_lies_18 rfl (by rfl) (by decide) (by decide) ?_
      try simp only [lg_cmp_ge, lg_cmp_le, lg_lt, lg_gt] at c3
      try simp only [lg_cmp_ge, lg_cmp_le, lg_lt, lg_gt] at c10
      refine ⟨congrArg (fun z : Int32 => some (vI z)) ?_, rfl⟩
      first | (rw [bi_t (by first | omega | (simp only [Int32.le_iff_toInt_le, Int32.lt_iff_toInt_lt, ← Int32.toInt_inj, Int64.le_iff_toInt_le] at *; omega) | (simp_all; done))]; rfl) | (rw [bi_f (by first | omega | (simp only [Int32.le_iff_toInt_le, Int32.lt_iff_toInt_lt, ← Int32.toInt_inj, Int64.le_iff_toInt_le] at *; omega) | (simp_all; done))]; rfl)
theorem c_liesI {E : En} (hok : EOK E) {h : Hp} (x a b : Int32) {X A B : Int64} (e1 : x.toInt64 = X) (e2 : a.toInt64 = A) (e3 : b.toInt64 = B) : Fn E m_X12_lies 0 [vL X, vL A, vL B] h (vI (bi (a ≤ x ∧ x ≤ b))) := by
  have q := c_lies hok (h := h) X A B
  subst e1 e2 e3
  simp only [fa_wide_le'] at q
  exact q
set_option maxRecDepth 4000 in
theorem cm_isKind {E : En} (hok : EOK E) {h : Hp} (hw : Wf (mo h)) (x : Int32) : Fn E m_X12_isKind 1 [vR MO, vI (x)] h (vI (bi (∃ j : Nat, j < nK (mo h) ∧ x = nI j))) := by
  have hNw : h.1 MO 2 = nI (nW (mo h)) := hw.w.1
  have hNwb := hw.w.2
  have hC : h.1 MO 30 = nI (nC (mo h)) := hw.c.1
  have hCb := hw.c.2
  have hK : h.1 MO 3 = nI (nK (mo h)) := hw.k.1
  have hKb := hw.k.2
  have hT : h.1 MO 4 = nI (nT (mo h)) := hw.t.1
  have hTb := hw.t.2
  have hF : h.1 MO 5 = nI (nF (mo h)) := hw.f.1
  have hFb := hw.f.2
  have hRc : h.1 MO 59 = nI (nR (mo h)) := hw.r.1
  have hRb := hw.r.2
  have hG : h.1 MO 60 = nI (nGf (mo h)) := hw.g.1
  have hGb := hw.g.2
  have hA : h.1 MO 70 = nI (nA (mo h)) := hw.a.1
  have hAb := hw.a.2
  have hTl : h.1 MO 1 = nI (nTl (mo h)) := hw.tl.1
  have hTlb := hw.tl.2
  refine Call.enter hok (by decide) (Nat.le_of_ble_eq_true rfl) ?_
  show G E m_X12_isKind 1 0 0 _ h 0 [some (vR MO), some (vI x)] [] h 0 0
  refine g_iload_n (pc' := 1) dX12_isKind_0 rfl rfl ?_
  refine g_i2l (pc' := 2) dX12_isKind_1 rfl ?_
  refine g_lconst (v := 0) (pc' := 3) dX12_isKind_2 rfl rfl ?_
  refine g_aload_n (pc' := 4) dX12_isKind_3 rfl rfl ?_
  refine g_getIv (v := nI (nK (mo h))) (pc' := 7) (k := 3) dX12_isKind_4 rfl rfl ck_13 (by decide) fl_X12_207 rfl (hK) ?_
  refine g_iconstN (n := 1) (pc' := 8) dX12_isKind_7 rfl ?_
  refine g_isub (pc' := 9) dX12_isKind_8 rfl ?_
  refine g_i2l (pc' := 10) dX12_isKind_9 rfl ?_
  refine g_invS (pc' := 13) (c_liesI hok _ (0) _ rfl (by decide) rfl) dX12_isKind_10 rfl ml_X12_203 st_X12_lies in_X12 co_X12_lies pd_X12_lies rfl (by omega) (by decide) ⟨by decide, by decide⟩ (Nat.le_of_ble_eq_true rfl) ?_
  rintro _ _ ⟨rfl, rfl⟩ -
  refine g_zret dX12_isKind_13 rfl (nbB) (by decide) (by decide) ?_
  exact ⟨congrArg (fun z : Int32 => some (vI z)) (bi_of (inN_iff (by omega))), rfl⟩
set_option maxRecDepth 4000 in
theorem cm_isToy {E : En} (hok : EOK E) {h : Hp} (hw : Wf (mo h)) (x : Int32) : Fn E m_X12_isToy 1 [vR MO, vI (x)] h (vI (bi (∃ j : Nat, j < nT (mo h) ∧ x = nI j))) := by
  have hNw : h.1 MO 2 = nI (nW (mo h)) := hw.w.1
  have hNwb := hw.w.2
  have hC : h.1 MO 30 = nI (nC (mo h)) := hw.c.1
  have hCb := hw.c.2
  have hK : h.1 MO 3 = nI (nK (mo h)) := hw.k.1
  have hKb := hw.k.2
  have hT : h.1 MO 4 = nI (nT (mo h)) := hw.t.1
  have hTb := hw.t.2
  have hF : h.1 MO 5 = nI (nF (mo h)) := hw.f.1
  have hFb := hw.f.2
  have hRc : h.1 MO 59 = nI (nR (mo h)) := hw.r.1
  have hRb := hw.r.2
  have hG : h.1 MO 60 = nI (nGf (mo h)) := hw.g.1
  have hGb := hw.g.2
  have hA : h.1 MO 70 = nI (nA (mo h)) := hw.a.1
  have hAb := hw.a.2
  have hTl : h.1 MO 1 = nI (nTl (mo h)) := hw.tl.1
  have hTlb := hw.tl.2
  refine Call.enter hok (by decide) (Nat.le_of_ble_eq_true rfl) ?_
  show G E m_X12_isToy 1 0 0 _ h 0 [some (vR MO), some (vI x)] [] h 0 0
  refine g_iload_n (pc' := 1) dX12_isToy_0 rfl rfl ?_
  refine g_i2l (pc' := 2) dX12_isToy_1 rfl ?_
  refine g_lconst (v := 0) (pc' := 3) dX12_isToy_2 rfl rfl ?_
  refine g_aload_n (pc' := 4) dX12_isToy_3 rfl rfl ?_
  refine g_getIv (v := nI (nT (mo h))) (pc' := 7) (k := 4) dX12_isToy_4 rfl rfl ck_13 (by decide) fl_X12_211 rfl (hT) ?_
  refine g_iconstN (n := 1) (pc' := 8) dX12_isToy_7 rfl ?_
  refine g_isub (pc' := 9) dX12_isToy_8 rfl ?_
  refine g_i2l (pc' := 10) dX12_isToy_9 rfl ?_
  refine g_invS (pc' := 13) (c_liesI hok _ (0) _ rfl (by decide) rfl) dX12_isToy_10 rfl ml_X12_203 st_X12_lies in_X12 co_X12_lies pd_X12_lies rfl (by omega) (by decide) ⟨by decide, by decide⟩ (Nat.le_of_ble_eq_true rfl) ?_
  rintro _ _ ⟨rfl, rfl⟩ -
  refine g_zret dX12_isToy_13 rfl (nbB) (by decide) (by decide) ?_
  exact ⟨congrArg (fun z : Int32 => some (vI z)) (bi_of (inN_iff (by omega))), rfl⟩
set_option maxRecDepth 4000 in
theorem cm_isFamily {E : En} (hok : EOK E) {h : Hp} (hw : Wf (mo h)) (x : Int32) : Fn E m_X12_isFamily 1 [vR MO, vI (x)] h (vI (bi (∃ j : Nat, j < nF (mo h) ∧ x = nI j))) := by
  have hNw : h.1 MO 2 = nI (nW (mo h)) := hw.w.1
  have hNwb := hw.w.2
  have hC : h.1 MO 30 = nI (nC (mo h)) := hw.c.1
  have hCb := hw.c.2
  have hK : h.1 MO 3 = nI (nK (mo h)) := hw.k.1
  have hKb := hw.k.2
  have hT : h.1 MO 4 = nI (nT (mo h)) := hw.t.1
  have hTb := hw.t.2
  have hF : h.1 MO 5 = nI (nF (mo h)) := hw.f.1
  have hFb := hw.f.2
  have hRc : h.1 MO 59 = nI (nR (mo h)) := hw.r.1
  have hRb := hw.r.2
  have hG : h.1 MO 60 = nI (nGf (mo h)) := hw.g.1
  have hGb := hw.g.2
  have hA : h.1 MO 70 = nI (nA (mo h)) := hw.a.1
  have hAb := hw.a.2
  have hTl : h.1 MO 1 = nI (nTl (mo h)) := hw.tl.1
  have hTlb := hw.tl.2
  refine Call.enter hok (by decide) (Nat.le_of_ble_eq_true rfl) ?_
  show G E m_X12_isFamily 1 0 0 _ h 0 [some (vR MO), some (vI x)] [] h 0 0
  refine g_iload_n (pc' := 1) dX12_isFamily_0 rfl rfl ?_
  refine g_i2l (pc' := 2) dX12_isFamily_1 rfl ?_
  refine g_lconst (v := 0) (pc' := 3) dX12_isFamily_2 rfl rfl ?_
  refine g_aload_n (pc' := 4) dX12_isFamily_3 rfl rfl ?_
  refine g_getIv (v := nI (nF (mo h))) (pc' := 7) (k := 5) dX12_isFamily_4 rfl rfl ck_13 (by decide) fl_X12_214 rfl (hF) ?_
  refine g_iconstN (n := 1) (pc' := 8) dX12_isFamily_7 rfl ?_
  refine g_isub (pc' := 9) dX12_isFamily_8 rfl ?_
  refine g_i2l (pc' := 10) dX12_isFamily_9 rfl ?_
  refine g_invS (pc' := 13) (c_liesI hok _ (0) _ rfl (by decide) rfl) dX12_isFamily_10 rfl ml_X12_203 st_X12_lies in_X12 co_X12_lies pd_X12_lies rfl (by omega) (by decide) ⟨by decide, by decide⟩ (Nat.le_of_ble_eq_true rfl) ?_
  rintro _ _ ⟨rfl, rfl⟩ -
  refine g_zret dX12_isFamily_13 rfl (nbB) (by decide) (by decide) ?_
  exact ⟨congrArg (fun z : Int32 => some (vI z)) (bi_of (inN_iff (by omega))), rfl⟩
set_option maxRecDepth 4000 in
theorem cm_isRecall {E : En} (hok : EOK E) {h : Hp} (hw : Wf (mo h)) (x : Int32) : Fn E m_X12_isRecall 1 [vR MO, vI (x)] h (vI (bi (∃ j : Nat, j < nR (mo h) ∧ x = nI j))) := by
  have hNw : h.1 MO 2 = nI (nW (mo h)) := hw.w.1
  have hNwb := hw.w.2
  have hC : h.1 MO 30 = nI (nC (mo h)) := hw.c.1
  have hCb := hw.c.2
  have hK : h.1 MO 3 = nI (nK (mo h)) := hw.k.1
  have hKb := hw.k.2
  have hT : h.1 MO 4 = nI (nT (mo h)) := hw.t.1
  have hTb := hw.t.2
  have hF : h.1 MO 5 = nI (nF (mo h)) := hw.f.1
  have hFb := hw.f.2
  have hRc : h.1 MO 59 = nI (nR (mo h)) := hw.r.1
  have hRb := hw.r.2
  have hG : h.1 MO 60 = nI (nGf (mo h)) := hw.g.1
  have hGb := hw.g.2
  have hA : h.1 MO 70 = nI (nA (mo h)) := hw.a.1
  have hAb := hw.a.2
  have hTl : h.1 MO 1 = nI (nTl (mo h)) := hw.tl.1
  have hTlb := hw.tl.2
  refine Call.enter hok (by decide) (Nat.le_of_ble_eq_true rfl) ?_
  show G E m_X12_isRecall 1 0 0 _ h 0 [some (vR MO), some (vI x)] [] h 0 0
  refine g_iload_n (pc' := 1) dX12_isRecall_0 rfl rfl ?_
  refine g_i2l (pc' := 2) dX12_isRecall_1 rfl ?_
  refine g_lconst (v := 0) (pc' := 3) dX12_isRecall_2 rfl rfl ?_
  refine g_aload_n (pc' := 4) dX12_isRecall_3 rfl rfl ?_
  refine g_getIv (v := nI (nR (mo h))) (pc' := 7) (k := 59) dX12_isRecall_4 rfl rfl ck_13 (by decide) fl_X12_419 rfl (hRc) ?_
  refine g_iconstN (n := 1) (pc' := 8) dX12_isRecall_7 rfl ?_
  refine g_isub (pc' := 9) dX12_isRecall_8 rfl ?_
  refine g_i2l (pc' := 10) dX12_isRecall_9 rfl ?_
  refine g_invS (pc' := 13) (c_liesI hok _ (0) _ rfl (by decide) rfl) dX12_isRecall_10 rfl ml_X12_203 st_X12_lies in_X12 co_X12_lies pd_X12_lies rfl (by omega) (by decide) ⟨by decide, by decide⟩ (Nat.le_of_ble_eq_true rfl) ?_
  rintro _ _ ⟨rfl, rfl⟩ -
  refine g_zret dX12_isRecall_13 rfl (nbB) (by decide) (by decide) ?_
  exact ⟨congrArg (fun z : Int32 => some (vI z)) (bi_of (inN_iff (by omega))), rfl⟩
set_option maxRecDepth 4000 in
theorem cm_isDay {E : En} (hok : EOK E) {h : Hp} (x : Int32) : Fn E m_X12_isDay 1 [vI (x)] h (vI (bi (0 ≤ x ∧ x ≤ 699))) := by
  refine Call.enter hok (by decide) (Nat.le_of_ble_eq_true rfl) ?_
  show G E m_X12_isDay 1 0 0 _ h 0 [some (vI x)] [] h 0 0
  refine g_iload_n (pc' := 1) dX12_isDay_0 rfl rfl ?_
  refine g_i2l (pc' := 2) dX12_isDay_1 rfl ?_
  refine g_lconst (v := 0) (pc' := 3) dX12_isDay_2 rfl rfl ?_
  refine g_ldc2 (pc' := 6) dX12_isDay_3 rfl kc_X12_201 ?_
  refine g_invS (pc' := 9) (c_liesI hok _ (0) (699) rfl (by decide) (by decide)) dX12_isDay_6 rfl ml_X12_203 st_X12_lies in_X12 co_X12_lies pd_X12_lies rfl (by omega) (by decide) ⟨by decide, by decide⟩ (Nat.le_of_ble_eq_true rfl) ?_
  rintro _ _ ⟨rfl, rfl⟩ -
  refine g_zret dX12_isDay_9 rfl (nbB) (by decide) (by decide) ?_
  exact ⟨rfl, rfl⟩
set_option maxRecDepth 4000 in
theorem cm_isSort {E : En} (hok : EOK E) {h : Hp} (x : Int32) : Fn E m_X12_isSort 1 [vI (x)] h (vI (bi (0 ≤ x ∧ x ≤ 5))) := by
  refine Call.enter hok (by decide) (Nat.le_of_ble_eq_true rfl) ?_
  show G E m_X12_isSort 1 0 0 _ h 0 [some (vI x)] [] h 0 0
  refine g_iload_n (pc' := 1) dX12_isSort_0 rfl rfl ?_
  refine g_i2l (pc' := 2) dX12_isSort_1 rfl ?_
  refine g_lconst (v := 0) (pc' := 3) dX12_isSort_2 rfl rfl ?_
  refine g_ldc2 (pc' := 6) dX12_isSort_3 rfl kc_X12_217 ?_
  refine g_invS (pc' := 9) (c_liesI hok _ (0) (5) rfl (by decide) (by decide)) dX12_isSort_6 rfl ml_X12_203 st_X12_lies in_X12 co_X12_lies pd_X12_lies rfl (by omega) (by decide) ⟨by decide, by decide⟩ (Nat.le_of_ble_eq_true rfl) ?_
  rintro _ _ ⟨rfl, rfl⟩ -
  refine g_zret dX12_isSort_9 rfl (nbB) (by decide) (by decide) ?_
  exact ⟨rfl, rfl⟩
set_option maxRecDepth 4000 in
theorem lm_hasToys {E : En} (hok : EOK E) {h h0 : Hp} (hs : Shp h.2) (hw : Wf (mo h)) (f : Int32) {d : Nat} (hd : 0 ≤ d) {Q : Option V → Hp → Prop} (hQ : Q (some (vI (nI (hsT (mo h) f)))) h) : ∀ n t : Nat, t ≤ nT (mo h) → nT (mo h) - t = n → G E m_X12_hasToys d 0 0 Q h0 4 [some (vR MO), some (vI f), some (vI (nI (cnt (fun t => mo h 118 t = 1 ∧ mo h 119 t = f) t))), some (vI (nI t))] [] h 0 0 := by
  have hNw : h.1 MO 2 = nI (nW (mo h)) := hw.w.1
  have hNwb := hw.w.2
  have hC : h.1 MO 30 = nI (nC (mo h)) := hw.c.1
  have hCb := hw.c.2
  have hK : h.1 MO 3 = nI (nK (mo h)) := hw.k.1
  have hKb := hw.k.2
  have hT : h.1 MO 4 = nI (nT (mo h)) := hw.t.1
  have hTb := hw.t.2
  have hF : h.1 MO 5 = nI (nF (mo h)) := hw.f.1
  have hFb := hw.f.2
  have hRc : h.1 MO 59 = nI (nR (mo h)) := hw.r.1
  have hRb := hw.r.2
  have hG : h.1 MO 60 = nI (nGf (mo h)) := hw.g.1
  have hGb := hw.g.2
  have hA : h.1 MO 70 = nI (nA (mo h)) := hw.a.1
  have hAb := hw.a.2
  have hTl : h.1 MO 1 = nI (nTl (mo h)) := hw.tl.1
  have hTlb := hw.tl.2
  intro n
  induction n with
  | zero =>
    intro t h1 h2
    refine g_iload_n (pc' := 5) dX12_hasToys_4 rfl rfl ?_
    refine g_aload_n (pc' := 6) dX12_hasToys_5 rfl rfl ?_
    refine g_getIv (v := nI (nT (mo h))) (pc' := 9) (k := 4) dX12_hasToys_6 rfl rfl ck_13 (by decide) fl_X12_211 rfl (hT) ?_
    refine g_icmp_geN (tgt := 46) (pc' := 12) dX12_hasToys_9 rfl (by decide) (by omega) (by omega) (fun c9 => ?_) (fun c9 => ?_)
    ·
      refine g_iload_n (pc' := 47) dX12_hasToys_46 rfl rfl ?_
      refine g_iret dX12_hasToys_47 rfl (by decide) (by decide) ?_
      have e : t = nT (mo h) := by omega
      subst e
      exact hQ
    · exact absurd c9 (by omega)
  | succ n ih =>
    intro t h1 h2
    refine g_iload_n (pc' := 5) dX12_hasToys_4 rfl rfl ?_
    refine g_aload_n (pc' := 6) dX12_hasToys_5 rfl rfl ?_
    refine g_getIv (v := nI (nT (mo h))) (pc' := 9) (k := 4) dX12_hasToys_6 rfl rfl ck_13 (by decide) fl_X12_211 rfl (hT) ?_
    refine g_icmp_geN (tgt := 46) (pc' := 12) dX12_hasToys_9 rfl (by decide) (by omega) (by omega) (fun c9 => ?_) (fun c9 => ?_)
    · exact absurd c9 (by omega)
    ·
      refine g_iload_n (pc' := 13) dX12_hasToys_12 rfl rfl ?_
      refine g_aload_n (pc' := 14) dX12_hasToys_13 rfl rfl ?_
      refine g_getS (pc' := 17) (k := 18) (b := (118, 0)) dX12_hasToys_14 rfl rfl ck_13 (by decide) fl_X12_44 rfl hs rfl ?_
      refine g_iload_n (pc' := 18) dX12_hasToys_17 rfl rfl ?_
      refine g_ialdN (pc' := 19) (v := _) dX12_hasToys_18 rfl rfl (by decide) (by omega) (rfl) ?_
      refine g_iconstN (n := 1) (pc' := 20) dX12_hasToys_19 rfl ?_
      refine g_icmp_ne (tgt := 37) (pc' := 23) dX12_hasToys_20 rfl (by decide) (fun c20 => ?_) (fun c20 => ?_)
      ·
        refine g_iconstN (n := 0) (pc' := 38) dX12_hasToys_37 rfl ?_
        refine g_iaddN (pc' := 39) dX12_hasToys_38 rfl ?_
        refine g_istore_n (pc' := 40) dX12_hasToys_39 rfl (by decide) rfl ?_
        try simp only [List.set]
        refine g_iincN (k := 1) (pc' := 43) dX12_hasToys_40 rfl rfl (by decide) rfl ?_
        try simp only [List.set]
        refine g_goto (tgt := 4) dX12_hasToys_43 (by decide) ?_
        have q := ih (t + 1) (by omega) (by omega)
        rw [cnt_f (fun z => c20 z.1)] at q
        exact q
      ·
        refine g_aload_n (pc' := 24) dX12_hasToys_23 rfl rfl ?_
        refine g_getS (pc' := 27) (k := 19) (b := (119, 0)) dX12_hasToys_24 rfl rfl ck_13 (by decide) fl_X12_47 rfl hs rfl ?_
        refine g_iload_n (pc' := 28) dX12_hasToys_27 rfl rfl ?_
        refine g_ialdN (pc' := 29) (v := _) dX12_hasToys_28 rfl rfl (by decide) (by omega) (rfl) ?_
        refine g_iload_n (pc' := 30) dX12_hasToys_29 rfl rfl ?_
        refine g_icmp_ne (tgt := 37) (pc' := 33) dX12_hasToys_30 rfl (by decide) (fun c30 => ?_) (fun c30 => ?_)
        ·
          refine g_iconstN (n := 0) (pc' := 38) dX12_hasToys_37 rfl ?_
          refine g_iaddN (pc' := 39) dX12_hasToys_38 rfl ?_
          refine g_istore_n (pc' := 40) dX12_hasToys_39 rfl (by decide) rfl ?_
          try simp only [List.set]
          refine g_iincN (k := 1) (pc' := 43) dX12_hasToys_40 rfl rfl (by decide) rfl ?_
          try simp only [List.set]
          refine g_goto (tgt := 4) dX12_hasToys_43 (by decide) ?_
          have q := ih (t + 1) (by omega) (by omega)
          rw [cnt_f (fun z => c30 z.2)] at q
          exact q
        ·
          refine g_iconstN (n := 1) (pc' := 34) dX12_hasToys_33 rfl ?_
          refine g_goto (tgt := 38) dX12_hasToys_34 (by decide) ?_
          refine g_iaddN (pc' := 39) dX12_hasToys_38 rfl ?_
          refine g_istore_n (pc' := 40) dX12_hasToys_39 rfl (by decide) rfl ?_
          try simp only [List.set]
          refine g_iincN (k := 1) (pc' := 43) dX12_hasToys_40 rfl rfl (by decide) rfl ?_
          try simp only [List.set]
          refine g_goto (tgt := 4) dX12_hasToys_43 (by decide) ?_
          have q := ih (t + 1) (by omega) (by omega)
          rw [cnt_t ⟨c20, c30⟩] at q
          exact q
