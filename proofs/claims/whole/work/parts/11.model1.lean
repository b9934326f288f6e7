abbrev TH : Ad := (0, 0)
abbrev MO : Ad := (1, 0)
theorem n1 : nI 1 = 1 := rfl
theorem fa_wide_le' (a b : Int32) : a.toInt64 ≤ b.toInt64 ↔ a ≤ b := by
  rw [Int64.le_iff_toInt_le, Int32.le_iff_toInt_le, Int32.toInt_toInt64, Int32.toInt_toInt64]
theorem lg_lt (x y : Int64) : (lg_cmp x y < 0) ↔ ¬ y ≤ x := by rw [← lg_cmp_ge, Int32.not_le]
theorem lg_gt (x y : Int64) : (0 < lg_cmp x y) ↔ ¬ x ≤ y := by rw [← lg_cmp_le, Int32.not_le]
set_option maxRecDepth 4000 in
theorem c_lies {E : En} (hok : EOK E) {h : Hp} (x a b : Int64) : Fn E m_X12_lies 0 [vL x, vL a, vL b] h (vI (if a ≤ x ∧ x ≤ b then 1 else 0)) := by
  refine Call.enter hok (by decide) (Nat.le_of_ble_eq_true rfl) ?_
  show G E m_X12_lies 0 0 0 _ h 0 [some (vL x), none, some (vL a), none, some (vL b), none] [] h 0 0
  refine g_lload_n (pc' := 1) dX12_lies_0 rfl rfl ?_
  refine g_lload_n (pc' := 2) dX12_lies_1 rfl rfl ?_
  refine g_lcmp (pc' := 3) dX12_lies_2 rfl ?_
  refine g_if_lt (tgt := 17) (pc' := 6) dX12_lies_3 rfl (by decide) (fun c3 => ?_) (fun c3 => ?_)
  ·
    refine g_iconstN (pc' := 18) dX12_lies_17 rfl ?_
    refine g_zret dX12_lies_18 rfl (by rfl) (by decide) (by decide) ?_
    try simp only [lg_cmp_ge, lg_cmp_le, lg_lt, lg_gt] at c3
    try simp only [lg_cmp_ge, lg_cmp_le, lg_lt, lg_gt] at c10
    refine ⟨congrArg (fun z : Int32 => some (vI z)) ?_, rfl⟩
    first | (rw [if_pos (by first | omega | (simp only [Int32.le_iff_toInt_le, Int32.lt_iff_toInt_lt, ← Int32.toInt_inj, Int64.le_iff_toInt_le] at *; omega) | (simp_all; done))]; rfl) | (rw [if_neg (by first | omega | (simp only [Int32.le_iff_toInt_le, Int32.lt_iff_toInt_lt, ← Int32.toInt_inj, Int64.le_iff_toInt_le] at *; omega) | (simp_all; done))]; rfl)
  ·
    refine g_lload_n (pc' := 7) dX12_lies_6 rfl rfl ?_
    refine g_lload (pc' := 9) dX12_lies_7 rfl rfl ?_
    refine g_lcmp (pc' := 10) dX12_lies_9 rfl ?_
    refine g_if_gt (tgt := 17) (pc' := 13) dX12_lies_10 rfl (by decide) (fun c10 => ?_) (fun c10 => ?_)
    ·
      refine g_iconstN (pc' := 18) dX12_lies_17 rfl ?_
      refine g_zret dX12_lies_18 rfl (by rfl) (by decide) (by decide) ?_
      try simp only [lg_cmp_ge, lg_cmp_le, lg_lt, lg_gt] at c3
      try simp only [lg_cmp_ge, lg_cmp_le, lg_lt, lg_gt] at c10
      refine ⟨congrArg (fun z : Int32 => some (vI z)) ?_, rfl⟩
      first | (rw [if_pos (by first | omega | (simp only [Int32.le_iff_toInt_le, Int32.lt_iff_toInt_lt, ← Int32.toInt_inj, Int64.le_iff_toInt_le] at *; omega) | (simp_all; done))]; rfl) | (rw [if_neg (by first | omega | (simp only [Int32.le_iff_toInt_le, Int32.lt_iff_toInt_lt, ← Int32.toInt_inj, Int64.le_iff_toInt_le] at *; omega) | (simp_all; done))]; rfl)
    ·
      refine g_iconstN (pc' := 14) dX12_lies_13 rfl ?_
      refine g_goto (tgt := 18) dX12_lies_14 (by decide) ?_
      refine g_zret dX12_lies_18 rfl (by rfl) (by decide) (by decide) ?_
      try simp only [lg_cmp_ge, lg_cmp_le, lg_lt, lg_gt] at c3
      try simp only [lg_cmp_ge, lg_cmp_le, lg_lt, lg_gt] at c10
      refine ⟨congrArg (fun z : Int32 => some (vI z)) ?_, rfl⟩
      first | (rw [if_pos (by first | omega | (simp only [Int32.le_iff_toInt_le, Int32.lt_iff_toInt_lt, ← Int32.toInt_inj, Int64.le_iff_toInt_le] at *; omega) | (simp_all; done))]; rfl) | (rw [if_neg (by first | omega | (simp only [Int32.le_iff_toInt_le, Int32.lt_iff_toInt_lt, ← Int32.toInt_inj, Int64.le_iff_toInt_le] at *; omega) | (simp_all; done))]; rfl)
theorem c_liesI {E : En} (hok : EOK E) {h : Hp} (x a b : Int32) {X A B : Int64} (e1 : x.toInt64 = X) (e2 : a.toInt64 = A) (e3 : b.toInt64 = B) : Fn E m_X12_lies 0 [vL X, vL A, vL B] h (vI (if a ≤ x ∧ x ≤ b then 1 else 0)) := by
  have q := c_lies hok (h := h) X A B
  subst e1 e2 e3
  simp only [fa_wide_le'] at q
  exact q
set_option maxRecDepth 4000 in
theorem cm_isKind {E : En} (hok : EOK E) {h : Hp} (k : Int32) : Fn E m_X12_isKind 1 [vR MO, vI (k)] h (vI (if 0 ≤ k ∧ k ≤ h.1 MO 3 - 1 then 1 else 0)) := by
  refine Call.enter hok (by decide) (Nat.le_of_ble_eq_true rfl) ?_
  show G E m_X12_isKind 1 0 0 _ h 0 [some (vR MO), some (vI k)] [] h 0 0
  refine g_iload_n (pc' := 1) dX12_isKind_0 rfl rfl ?_
  refine g_i2l (pc' := 2) dX12_isKind_1 rfl ?_
  refine g_lconst (v := 0) (pc' := 3) dX12_isKind_2 rfl rfl ?_
  refine g_aload_n (pc' := 4) dX12_isKind_3 rfl rfl ?_
  refine g_getI (pc' := 7) (k := 3) dX12_isKind_4 rfl rfl ck_13 (by decide) fl_X12_207 rfl ?_
  refine g_iconstN (pc' := 8) dX12_isKind_7 rfl ?_
  refine g_isub (pc' := 9) dX12_isKind_8 rfl ?_
  refine g_i2l (pc' := 10) dX12_isKind_9 rfl ?_
  refine g_invS (pc' := 13) (c_liesI hok _ (0) _ rfl (by decide) rfl) dX12_isKind_10 rfl ml_X12_203 st_X12_lies in_X12 co_X12_lies pd_X12_lies rfl (by omega) (by decide) ⟨by decide, by decide⟩ (by simp) ?_
  rintro _ _ ⟨rfl, rfl⟩ -
  refine g_zret dX12_isKind_13 rfl (nb) (by decide) (by decide) ?_
  exact ⟨rfl, rfl⟩
set_option maxRecDepth 4000 in
theorem cm_now {E : En} (hok : EOK E) {h : Hp} (x : Int32) : Fm E m_X12_now 1 [vR MO, vI (x)] h (some (vI (if h.1 MO 2 ≤ x ∧ x ≤ 699 then 1 else 0))) (if h.1 MO 2 ≤ x ∧ x ≤ 699 then wI h MO 2 x else h) := by
  refine Call.enter hok (by decide) (Nat.le_of_ble_eq_true rfl) ?_
  show G E m_X12_now 1 0 0 _ h 0 [some (vR MO), some (vI x)] [] h 0 0
  refine g_iload_n (pc' := 1) dX12_now_0 rfl rfl ?_
  refine g_i2l (pc' := 2) dX12_now_1 rfl ?_
  refine g_aload_n (pc' := 3) dX12_now_2 rfl rfl ?_
  refine g_getI (pc' := 6) (k := 2) dX12_now_3 rfl rfl ck_13 (by decide) fl_X12_219 rfl ?_
  refine g_i2l (pc' := 7) dX12_now_6 rfl ?_
  refine g_ldc2 (pc' := 10) dX12_now_7 rfl kc_X12_201 ?_
  refine g_invS (pc' := 13) (c_liesI hok _ _ (699) rfl rfl (by decide)) dX12_now_10 rfl ml_X12_203 st_X12_lies in_X12 co_X12_lies pd_X12_lies rfl (by omega) (by decide) ⟨by decide, by decide⟩ (by simp) ?_
  rintro _ _ ⟨rfl, rfl⟩ -
  refine g_ifb_ne (tgt := 18) (pc' := 16) dX12_now_13 rfl (by decide) (fun c13 => ?_) (fun c13 => ?_)
  ·
    refine g_aload_n (pc' := 19) dX12_now_18 rfl rfl ?_
    refine g_iload_n (pc' := 20) dX12_now_19 rfl rfl ?_
    refine g_putI (pc' := 23) (k := 2) dX12_now_20 rfl rfl ck_13 (by decide) fl_X12_219 rfl rfl rfl rfl ?_
    refine g_iconstN (pc' := 24) dX12_now_23 rfl ?_
    refine g_zret dX12_now_24 rfl (by rfl) (by decide) (by decide) ?_
    refine ⟨congrArg (fun z : Int32 => some (vI z)) ?_, ?_⟩
    · first | (rw [if_pos (by first | omega | (simp only [Int32.le_iff_toInt_le, Int32.lt_iff_toInt_lt, ← Int32.toInt_inj, Int64.le_iff_toInt_le] at *; omega) | (simp_all; done))]; rfl) | (rw [if_neg (by first | omega | (simp only [Int32.le_iff_toInt_le, Int32.lt_iff_toInt_lt, ← Int32.toInt_inj, Int64.le_iff_toInt_le] at *; omega) | (simp_all; done))]; rfl)
    · first | (rw [if_pos (by first | omega | (simp only [Int32.le_iff_toInt_le, Int32.lt_iff_toInt_lt, ← Int32.toInt_inj, Int64.le_iff_toInt_le] at *; omega) | (simp_all; done))]; done) | (rw [if_neg (by first | omega | (simp only [Int32.le_iff_toInt_le, Int32.lt_iff_toInt_lt, ← Int32.toInt_inj, Int64.le_iff_toInt_le] at *; omega) | (simp_all; done))]; done)
  ·
    refine g_iconstN (pc' := 17) dX12_now_16 rfl ?_
    refine g_zret dX12_now_17 rfl (by rfl) (by decide) (by decide) ?_
    refine ⟨congrArg (fun z : Int32 => some (vI z)) ?_, ?_⟩
    · first | (rw [if_pos (by first | omega | (simp only [Int32.le_iff_toInt_le, Int32.lt_iff_toInt_lt, ← Int32.toInt_inj, Int64.le_iff_toInt_le] at *; omega) | (simp_all; done))]; rfl) | (rw [if_neg (by first | omega | (simp only [Int32.le_iff_toInt_le, Int32.lt_iff_toInt_lt, ← Int32.toInt_inj, Int64.le_iff_toInt_le] at *; omega) | (simp_all; done))]; rfl)
    · first | (rw [if_pos (by first | omega | (simp only [Int32.le_iff_toInt_le, Int32.lt_iff_toInt_lt, ← Int32.toInt_inj, Int64.le_iff_toInt_le] at *; omega) | (simp_all; done))]; done) | (rw [if_neg (by first | omega | (simp only [Int32.le_iff_toInt_le, Int32.lt_iff_toInt_lt, ← Int32.toInt_inj, Int64.le_iff_toInt_le] at *; omega) | (simp_all; done))]; done)
