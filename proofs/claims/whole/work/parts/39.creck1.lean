/-- the class's reckoning: only its stack from place a on, its top and 'refused' may have changed -/
def Rk (a : Nat) (h h' : Hp) : Prop := h'.2 = h.2 ∧ (∀ b, b ≠ (7, 0) → b ≠ (43, 0) → h'.1 b = h.1 b) ∧ ∀ i, i < a → h'.1 (43, 0) i = h.1 (43, 0) i
theorem Rk.rf (a : Nat) (h : Hp) : Rk a h h := ⟨rfl, fun _ _ _ => rfl, fun _ _ => rfl⟩
theorem Rk.tr {a : Nat} {h1 h2 h3 : Hp} (x : Rk a h1 h2) (y : Rk a h2 h3) : Rk a h1 h3 := ⟨y.1.trans x.1, fun b p q => (y.2.1 b p q).trans (x.2.1 b p q), fun i hi => (y.2.2 i hi).trans (x.2.2 i hi)⟩
theorem Rk.le {a b : Nat} {h h' : Hp} (x : Rk b h h') (q : a ≤ b) : Rk a h h' := ⟨x.1, x.2.1, fun i hi => x.2.2 i (by omega)⟩
theorem Rk.t {a j : Nat} {h h' : Hp} {x : Int32} (k : Rk a h h') : Rk a h (wI h' (7, 0) j x) := ⟨k.1, fun b p q => (wI_off h' (7, 0) j x b p).trans (k.2.1 b p q), fun i hi => k.2.2 i hi⟩
theorem Rk.p {a i : Nat} {h h' : Hp} {x : Int32} (k : Rk a h h') (hi : a ≤ i) : Rk a h (wI h' (43, 0) i x) := ⟨k.1, fun b p q => (wI_off h' (43, 0) i x b q).trans (k.2.1 b p q), fun j hj => by
  rw [wI_f (by omega)]
  exact k.2.2 j hj⟩
/-- the top is at a, nothing refused -/
def Tp (h : Hp) (a : Nat) : Prop := h.1 (7, 0) 3 = nI a ∧ h.1 (7, 0) 4 = 0
/-- a value came onto place a, or it was refused -/
def RV (h : Hp) (a : Nat) (v : Option Int32) : Prop := match v with
  | some z => Tp h (a + 1) ∧ h.1 (43, 0) a = z
  | none => ¬ h.1 (7, 0) 4 = 0
theorem RV_push {H : Hp} {a : Nat} {x : Int32} (q : H.1 (7, 0) 4 = 0) : RV (wI (wI H (43, 0) a x) (7, 0) 3 (nI (a + 1))) a (some x) := ⟨⟨wI_same _ _ _ _, by rw [wI_f (by decide), wI_off _ _ _ _ (7, 0) (by decide)]; exact q⟩, by rw [wI_off _ _ _ _ (43, 0) (by decide), wI_same]⟩
theorem RV_none {H : Hp} {a : Nat} {x : Int32} (q : ¬ H.1 (7, 0) 4 = 0) : RV (wI (wI H (43, 0) a x) (7, 0) 3 (nI (a + 1))) a none := by
  show ¬ _ = (0 : Int32)
  rw [wI_f (by decide), wI_off _ _ _ _ (7, 0) (by decide)]
  exact q
theorem nI_nneg {n : Nat} (hn : n < 2 ^ 31) : ¬ nI n < 0 := Int32.not_lt.mpr (nI_le (Nat.zero_le n) hn)
set_option maxRecDepth 4000 in
theorem cx_push {E : En} (hok : EOK E) {h : Hp} (hs : Shp h.2) {a : Nat} (ha : a < 200) (h3 : h.1 (7, 0) 3 = nI a) (x : Int32) : Call E m_X5_push 0 0 0 [vR (7, 0), vI x] h (fun r h' => r = none ∧ wI (wI h (43, 0) a x) (7, 0) 3 (nI (a + 1)) = h') := by
  refine Call.enter hok (by decide) (Nat.le_of_ble_eq_true rfl) ?_
  show G E m_X5_push 0 0 0 _ h 0 [some (vR (7, 0)), some (vI x)] [] h 0 0
  refine g_aload_n (pc' := 1) dX5_push_0 rfl rfl ?_
  refine g_getIv (v := nI (a)) (pc' := 4) (k := 3) dX5_push_1 rfl rfl ck_6 (by decide) fl_X5_64 rfl (h3) ?_
  refine g_sipushN (n := 200) (pc' := 7) dX5_push_4 rfl (by decide) ?_
  refine g_icmp_geN (tgt := 30) (pc' := 10) dX5_push_7 rfl (by decide) (by omega) (by omega) (fun c7 => ?_) (fun c7 => ?_)
  · exact absurd c7 (by omega)
  ·
    refine g_aload_n (pc' := 11) dX5_push_10 rfl rfl ?_
    refine g_getS (pc' := 14) (k := 1) (b := (43, 0)) dX5_push_11 rfl rfl ck_6 (by decide) fl_X5_19 rfl hs rfl ?_
    refine g_aload_n (pc' := 15) dX5_push_14 rfl rfl ?_
    refine g_getIv (v := nI (a)) (pc' := 18) (k := 3) dX5_push_15 rfl rfl ck_6 (by decide) fl_X5_64 rfl (h3) ?_
    refine g_iload_n (pc' := 19) dX5_push_18 rfl rfl ?_
    refine g_iastN (pc' := 20) dX5_push_19 rfl rfl (by decide) (by omega) ?_
    refine g_aload_n (pc' := 21) dX5_push_20 rfl rfl ?_
    refine g_dup (pc' := 22) dX5_push_21 rfl rfl ?_
    refine g_getIv (v := nI (a)) (pc' := 25) (k := 3) dX5_push_22 rfl rfl ck_6 (by decide) fl_X5_64 rfl (h3) ?_
    refine g_iconstN (n := 1) (pc' := 26) dX5_push_25 rfl ?_
    refine g_iaddN (pc' := 27) dX5_push_26 rfl ?_
    refine g_putI (pc' := 30) (k := 3) dX5_push_27 rfl rfl ck_6 (by decide) fl_X5_64 rfl rfl rfl rfl ?_
    refine g_vret dX5_push_30 rfl (by decide) (by decide) ?_
    exact ⟨rfl, rfl⟩
set_option maxRecDepth 4000 in
theorem cx_pop {E : En} (hok : EOK E) {h : Hp} (hs : Shp h.2) {a : Nat} (ha : a < 200) (h3 : h.1 (7, 0) 3 = nI (a + 1)) : Call E m_X5_pop 0 0 0 [vR (7, 0)] h (fun r h' => r = some (vI (h.1 (43, 0) a)) ∧ wI h (7, 0) 3 (nI a) = h') := by
  refine Call.enter hok (by decide) (Nat.le_of_ble_eq_true rfl) ?_
  show G E m_X5_pop 0 0 0 _ h 0 [some (vR (7, 0))] [] h 0 0
  refine g_aload_n (pc' := 1) dX5_pop_0 rfl rfl ?_
  refine g_getIv (v := nI (a + 1)) (pc' := 4) (k := 3) dX5_pop_1 rfl rfl ck_6 (by decide) fl_X5_64 rfl (h3) ?_
  refine g_if_gtN (tgt := 9) (pc' := 7) dX5_pop_4 rfl (by decide) (by omega) (fun c4 => ?_) (fun c4 => ?_)
  ·
    refine g_aload_n (pc' := 10) dX5_pop_9 rfl rfl ?_
    refine g_dup (pc' := 11) dX5_pop_10 rfl rfl ?_
    refine g_getIv (v := nI (a + 1)) (pc' := 14) (k := 3) dX5_pop_11 rfl rfl ck_6 (by decide) fl_X5_64 rfl (h3) ?_
    refine g_iconstN (n := 1) (pc' := 15) dX5_pop_14 rfl ?_
    refine g_isubN (pc' := 16) dX5_pop_15 rfl (by omega) ?_
    refine g_putI (pc' := 19) (k := 3) dX5_pop_16 rfl rfl ck_6 (by decide) fl_X5_64 rfl rfl rfl rfl ?_
    refine g_aload_n (pc' := 20) dX5_pop_19 rfl rfl ?_
    refine g_getS (pc' := 23) (k := 1) (b := (43, 0)) dX5_pop_20 rfl rfl ck_6 (by decide) fl_X5_19 rfl hs rfl ?_
    refine g_aload_n (pc' := 24) dX5_pop_23 rfl rfl ?_
    refine g_getIv (v := nI (a)) (pc' := 27) (k := 3) dX5_pop_24 rfl rfl ck_6 (by decide) fl_X5_64 rfl (wI_same _ _ _ _) ?_
    refine g_ialdN (pc' := 28) (v := h.1 (43, 0) a) dX5_pop_27 rfl rfl (by decide) (by omega) (rfl) ?_
    refine g_iret dX5_pop_28 rfl (by decide) (by decide) ?_
    exact ⟨rfl, rfl⟩
  · exact absurd c4 (by omega)
set_option maxRecDepth 4000 in
theorem cx_joined_43 {E : En} (hok : EOK E) {h : Hp} (x y : Int32) : Call E m_X5_joined 0 0 0 [vR (7, 0), vI x, vI (nI 43), vI y] h (fun r h' => ∃ z, r = some (vI z) ∧ ((wkd 43 x y = some z ∧ h' = h) ∨ (wkd 43 x y = none ∧ h' = wI h (7, 0) 4 1))) := by
  refine Call.enter hok (by decide) (Nat.le_of_ble_eq_true rfl) ?_
  show G E m_X5_joined 0 0 0 _ h 0 [some (vR (7, 0)), some (vI x), some (vI (nI 43)), some (vI y)] [] h 0 0
  refine g_iload_n (pc' := 1) dX5_joined_0 rfl rfl ?_
  refine g_lookup (off := 59) (tgt := 60) dX5_joined_1 (by decide) (by decide) (by decide) ?_
  refine g_iload_n (pc' := 61) dX5_joined_60 rfl rfl ?_
  refine g_iload_n (pc' := 62) dX5_joined_61 rfl rfl ?_
  refine g_iadd (pc' := 63) dX5_joined_62 rfl ?_
  refine g_iret dX5_joined_63 rfl (by decide) (by decide) ?_
  exact ⟨_, rfl, Or.inl ⟨rfl, rfl⟩⟩
set_option maxRecDepth 4000 in
theorem cx_joined_45 {E : En} (hok : EOK E) {h : Hp} (x y : Int32) : Call E m_X5_joined 0 0 0 [vR (7, 0), vI x, vI (nI 45), vI y] h (fun r h' => ∃ z, r = some (vI z) ∧ ((wkd 45 x y = some z ∧ h' = h) ∨ (wkd 45 x y = none ∧ h' = wI h (7, 0) 4 1))) := by
  refine Call.enter hok (by decide) (Nat.le_of_ble_eq_true rfl) ?_
  show G E m_X5_joined 0 0 0 _ h 0 [some (vR (7, 0)), some (vI x), some (vI (nI 45)), some (vI y)] [] h 0 0
  refine g_iload_n (pc' := 1) dX5_joined_0 rfl rfl ?_
  refine g_lookup (off := 63) (tgt := 64) dX5_joined_1 (by decide) (by decide) (by decide) ?_
  refine g_iload_n (pc' := 65) dX5_joined_64 rfl rfl ?_
  refine g_iload_n (pc' := 66) dX5_joined_65 rfl rfl ?_
  refine g_isub (pc' := 67) dX5_joined_66 rfl ?_
  refine g_iret dX5_joined_67 rfl (by decide) (by decide) ?_
  exact ⟨_, rfl, Or.inl ⟨rfl, rfl⟩⟩
set_option maxRecDepth 4000 in
theorem cx_joined_42 {E : En} (hok : EOK E) {h : Hp} (x y : Int32) : Call E m_X5_joined 0 0 0 [vR (7, 0), vI x, vI (nI 42), vI y] h (fun r h' => ∃ z, r = some (vI z) ∧ ((wkd 42 x y = some z ∧ h' = h) ∨ (wkd 42 x y = none ∧ h' = wI h (7, 0) 4 1))) := by
  refine Call.enter hok (by decide) (Nat.le_of_ble_eq_true rfl) ?_
  show G E m_X5_joined 0 0 0 _ h 0 [some (vR (7, 0)), some (vI x), some (vI (nI 42)), some (vI y)] [] h 0 0
  refine g_iload_n (pc' := 1) dX5_joined_0 rfl rfl ?_
  refine g_lookup (off := 67) (tgt := 68) dX5_joined_1 (by decide) (by decide) (by decide) ?_
  refine g_iload_n (pc' := 69) dX5_joined_68 rfl rfl ?_
  refine g_iload_n (pc' := 70) dX5_joined_69 rfl rfl ?_
  refine g_imul (pc' := 71) dX5_joined_70 rfl ?_
  refine g_iret dX5_joined_71 rfl (by decide) (by decide) ?_
  exact ⟨_, rfl, Or.inl ⟨rfl, rfl⟩⟩
set_option maxRecDepth 4000 in
theorem cx_joined_47 {E : En} (hok : EOK E) {h : Hp} (x y : Int32) : Call E m_X5_joined 0 0 0 [vR (7, 0), vI x, vI (nI 47), vI y] h (fun r h' => ∃ z, r = some (vI z) ∧ ((wkd 47 x y = some z ∧ h' = h) ∨ (wkd 47 x y = none ∧ h' = wI h (7, 0) 4 1))) := by
  refine Call.enter hok (by decide) (Nat.le_of_ble_eq_true rfl) ?_
  show G E m_X5_joined 0 0 0 _ h 0 [some (vR (7, 0)), some (vI x), some (vI (nI 47)), some (vI y)] [] h 0 0
  refine g_iload_n (pc' := 1) dX5_joined_0 rfl rfl ?_
  refine g_lookup (off := 104) (tgt := 105) dX5_joined_1 (by decide) (by decide) (by decide) ?_
  refine g_iload_n (pc' := 106) dX5_joined_105 rfl rfl ?_
  refine g_if_ne (tgt := 116) (pc' := 109) dX5_joined_106 rfl (by decide) (fun c106 => ?_) (fun c106 => ?_)
  ·
    refine g_iload_n (pc' := 117) dX5_joined_116 rfl rfl ?_
    refine g_bipushN (n := 47) (pc' := 119) dX5_joined_117 rfl (by decide) ?_
    refine g_icmp_neN (tgt := 128) (pc' := 122) dX5_joined_119 rfl (by decide) (by decide) (by decide) (fun q => False.elim (by revert q; decide)) (fun _ => ?_)
    refine g_iload_n (pc' := 123) dX5_joined_122 rfl rfl ?_
    refine g_iload_n (pc' := 124) dX5_joined_123 rfl rfl ?_
    refine g_idiv (pc' := 125) dX5_joined_124 rfl (by assumption) ?_
    refine g_goto (tgt := 131) dX5_joined_125 (by decide) ?_
    refine g_iret dX5_joined_131 rfl (by decide) (by decide) ?_
    exact ⟨_, rfl, Or.inl ⟨if_neg c106, rfl⟩⟩
  ·
    refine g_aload_n (pc' := 110) dX5_joined_109 rfl rfl ?_
    refine g_iconstN (n := 1) (pc' := 111) dX5_joined_110 rfl ?_
    refine g_putI (pc' := 114) (k := 4) dX5_joined_111 rfl rfl ck_6 (by decide) fl_X5_60 rfl rfl (by rfl) (by rfl) ?_
    refine g_iconstN (n := 0) (pc' := 115) dX5_joined_114 rfl ?_
    refine g_iret dX5_joined_115 rfl (by decide) (by decide) ?_
    exact ⟨_, rfl, Or.inr ⟨if_pos c106, rfl⟩⟩
set_option maxRecDepth 4000 in
theorem cx_joined_37 {E : En} (hok : EOK E) {h : Hp} (x y : Int32) : Call E m_X5_joined 0 0 0 [vR (7, 0), vI x, vI (nI 37), vI y] h (fun r h' => ∃ z, r = some (vI z) ∧ ((wkd 37 x y = some z ∧ h' = h) ∨ (wkd 37 x y = none ∧ h' = wI h (7, 0) 4 1))) := by
  refine Call.enter hok (by decide) (Nat.le_of_ble_eq_true rfl) ?_
  show G E m_X5_joined 0 0 0 _ h 0 [some (vR (7, 0)), some (vI x), some (vI (nI 37)), some (vI y)] [] h 0 0
  refine g_iload_n (pc' := 1) dX5_joined_0 rfl rfl ?_
  refine g_lookup (off := 104) (tgt := 105) dX5_joined_1 (by decide) (by decide) (by decide) ?_
  refine g_iload_n (pc' := 106) dX5_joined_105 rfl rfl ?_
  refine g_if_ne (tgt := 116) (pc' := 109) dX5_joined_106 rfl (by decide) (fun c106 => ?_) (fun c106 => ?_)
  ·
    refine g_iload_n (pc' := 117) dX5_joined_116 rfl rfl ?_
    refine g_bipushN (n := 47) (pc' := 119) dX5_joined_117 rfl (by decide) ?_
    refine g_icmp_neN (tgt := 128) (pc' := 122) dX5_joined_119 rfl (by decide) (by decide) (by decide) (fun _ => ?_) (fun q => False.elim (by revert q; decide))
    refine g_iload_n (pc' := 129) dX5_joined_128 rfl rfl ?_
    refine g_iload_n (pc' := 130) dX5_joined_129 rfl rfl ?_
    refine g_irem (pc' := 131) dX5_joined_130 rfl (by assumption) ?_
    refine g_iret dX5_joined_131 rfl (by decide) (by decide) ?_
    exact ⟨_, rfl, Or.inl ⟨if_neg c106, rfl⟩⟩
  ·
    refine g_aload_n (pc' := 110) dX5_joined_109 rfl rfl ?_
    refine g_iconstN (n := 1) (pc' := 111) dX5_joined_110 rfl ?_
    refine g_putI (pc' := 114) (k := 4) dX5_joined_111 rfl rfl ck_6 (by decide) fl_X5_60 rfl rfl (by rfl) (by rfl) ?_
    refine g_iconstN (n := 0) (pc' := 115) dX5_joined_114 rfl ?_
    refine g_iret dX5_joined_115 rfl (by decide) (by decide) ?_
    exact ⟨_, rfl, Or.inr ⟨if_pos c106, rfl⟩⟩
set_option maxRecDepth 4000 in
theorem cx_joined_60 {E : En} (hok : EOK E) {h : Hp} (x y : Int32) : Call E m_X5_joined 0 0 0 [vR (7, 0), vI x, vI (nI 60), vI y] h (fun r h' => ∃ z, r = some (vI z) ∧ ((wkd 60 x y = some z ∧ h' = h) ∨ (wkd 60 x y = none ∧ h' = wI h (7, 0) 4 1))) := by
  refine Call.enter hok (by decide) (Nat.le_of_ble_eq_true rfl) ?_
  show G E m_X5_joined 0 0 0 _ h 0 [some (vR (7, 0)), some (vI x), some (vI (nI 60)), some (vI y)] [] h 0 0
  refine g_iload_n (pc' := 1) dX5_joined_0 rfl rfl ?_
  refine g_lookup (off := 71) (tgt := 72) dX5_joined_1 (by decide) (by decide) (by decide) ?_
  refine g_iload_n (pc' := 73) dX5_joined_72 rfl rfl ?_
  refine g_iload_n (pc' := 74) dX5_joined_73 rfl rfl ?_
  refine g_icmp_ge (tgt := 81) (pc' := 77) dX5_joined_74 rfl (by decide) (fun c74 => ?_) (fun c74 => ?_)
  ·
    refine g_iconstN (n := 0) (pc' := 82) dX5_joined_81 rfl ?_
    refine g_iret dX5_joined_82 rfl (by decide) (by decide) ?_
    exact ⟨_, rfl, Or.inl ⟨congrArg some (if_neg (Int32.not_lt.mpr c74)), rfl⟩⟩
  ·
    refine g_iconstN (n := 1) (pc' := 78) dX5_joined_77 rfl ?_
    refine g_goto (tgt := 82) dX5_joined_78 (by decide) ?_
    refine g_iret dX5_joined_82 rfl (by decide) (by decide) ?_
    exact ⟨_, rfl, Or.inl ⟨congrArg some (if_pos (Int32.not_le.mp c74)), rfl⟩⟩
set_option maxRecDepth 4000 in
theorem cx_joined_62 {E : En} (hok : EOK E) {h : Hp} (x y : Int32) : Call E m_X5_joined 0 0 0 [vR (7, 0), vI x, vI (nI 62), vI y] h (fun r h' => ∃ z, r = some (vI z) ∧ ((wkd 62 x y = some z ∧ h' = h) ∨ (wkd 62 x y = none ∧ h' = wI h (7, 0) 4 1))) := by
  refine Call.enter hok (by decide) (Nat.le_of_ble_eq_true rfl) ?_
  show G E m_X5_joined 0 0 0 _ h 0 [some (vR (7, 0)), some (vI x), some (vI (nI 62)), some (vI y)] [] h 0 0
  refine g_iload_n (pc' := 1) dX5_joined_0 rfl rfl ?_
  refine g_lookup (off := 82) (tgt := 83) dX5_joined_1 (by decide) (by decide) (by decide) ?_
  refine g_iload_n (pc' := 84) dX5_joined_83 rfl rfl ?_
  refine g_iload_n (pc' := 85) dX5_joined_84 rfl rfl ?_
  refine g_icmp_le (tgt := 92) (pc' := 88) dX5_joined_85 rfl (by decide) (fun c85 => ?_) (fun c85 => ?_)
  ·
    refine g_iconstN (n := 0) (pc' := 93) dX5_joined_92 rfl ?_
    refine g_iret dX5_joined_93 rfl (by decide) (by decide) ?_
    exact ⟨_, rfl, Or.inl ⟨congrArg some (if_neg (Int32.not_lt.mpr c85)), rfl⟩⟩
  ·
    refine g_iconstN (n := 1) (pc' := 89) dX5_joined_88 rfl ?_
    refine g_goto (tgt := 93) dX5_joined_89 (by decide) ?_
    refine g_iret dX5_joined_93 rfl (by decide) (by decide) ?_
    exact ⟨_, rfl, Or.inl ⟨congrArg some (if_pos (Int32.not_le.mp c85)), rfl⟩⟩
set_option maxRecDepth 4000 in
theorem cx_joined_61 {E : En} (hok : EOK E) {h : Hp} (x y : Int32) : Call E m_X5_joined 0 0 0 [vR (7, 0), vI x, vI (nI 61), vI y] h (fun r h' => ∃ z, r = some (vI z) ∧ ((wkd 61 x y = some z ∧ h' = h) ∨ (wkd 61 x y = none ∧ h' = wI h (7, 0) 4 1))) := by
  refine Call.enter hok (by decide) (Nat.le_of_ble_eq_true rfl) ?_
  show G E m_X5_joined 0 0 0 _ h 0 [some (vR (7, 0)), some (vI x), some (vI (nI 61)), some (vI y)] [] h 0 0
  refine g_iload_n (pc' := 1) dX5_joined_0 rfl rfl ?_
  refine g_lookup (off := 93) (tgt := 94) dX5_joined_1 (by decide) (by decide) (by decide) ?_
  refine g_iload_n (pc' := 95) dX5_joined_94 rfl rfl ?_
  refine g_iload_n (pc' := 96) dX5_joined_95 rfl rfl ?_
  refine g_icmp_ne (tgt := 103) (pc' := 99) dX5_joined_96 rfl (by decide) (fun c96 => ?_) (fun c96 => ?_)
  ·
    refine g_iconstN (n := 0) (pc' := 104) dX5_joined_103 rfl ?_
    refine g_iret dX5_joined_104 rfl (by decide) (by decide) ?_
    exact ⟨_, rfl, Or.inl ⟨congrArg some (if_neg c96), rfl⟩⟩
  ·
    refine g_iconstN (n := 1) (pc' := 100) dX5_joined_99 rfl ?_
    refine g_goto (tgt := 104) dX5_joined_100 (by decide) ?_
    refine g_iret dX5_joined_104 rfl (by decide) (by decide) ?_
    exact ⟨_, rfl, Or.inl ⟨congrArg some (if_pos c96), rfl⟩⟩
set_option maxRecDepth 4000 in
theorem cx_take_48 {E : En} (hok : EOK E) {h : Hp} (hs : Shp h.2) {a : Nat} (ha : a < 200) (hT : Tp h a) (x : Int32) : Call E m_X5_take 1 0 0 [vR (7, 0), vI (nI 48), vI x] h (fun r h' => r = none ∧ Rk a h h' ∧ RV h' a (some x)) := by
  refine Call.enter hok (by decide) (Nat.le_of_ble_eq_true rfl) ?_
  show G E m_X5_take 1 0 0 _ h 0 [some (vR (7, 0)), some (vI (nI 48)), some (vI x), none, none] [] h 0 0
  refine g_iload_n (pc' := 1) dX5_take_0 rfl rfl ?_
  refine g_bipushN (n := 48) (pc' := 3) dX5_take_1 rfl (by decide) ?_
  refine g_icmp_neN (tgt := 14) (pc' := 6) dX5_take_3 rfl (by decide) (by decide) (by decide) (fun q => False.elim (by revert q; decide)) (fun _ => ?_)
  refine g_aload_n (pc' := 7) dX5_take_6 rfl rfl ?_
  refine g_iload_n (pc' := 8) dX5_take_7 rfl rfl ?_
  refine g_invV (pc' := 11) (cx_push hok (by exact hs) (a := a) (by omega) (by exact hT.1) _) dX5_take_8 rfl rfl ck_6 rfl ml_X5_77 im_X5_push sl_X5_push in_X5 co_X5_push pd_X5_push rfl (by omega) (by decide) ⟨by decide, by decide⟩ (Nat.le_of_ble_eq_true rfl) ?_
  rintro _ _ ⟨rfl, rfl⟩ -
  refine g_goto (tgt := 98) dX5_take_11 (by decide) ?_
  refine g_vret dX5_take_98 rfl (by decide) (by decide) ?_
  exact ⟨rfl, ((Rk.rf a h).p (Nat.le_refl a)).t, RV_push hT.2⟩
set_option maxRecDepth 4000 in
theorem cx_take_97 {E : En} (hok : EOK E) {h : Hp} (hs : Shp h.2) {a u : Nat} (ha : a < 200) (hT : Tp h a) (hu : u < 26) : Call E m_X5_take 1 0 0 [vR (7, 0), vI (nI 97), vI (nI u)] h (fun r h' => r = none ∧ Rk a h h' ∧ RV h' a (some (h.1 (42, 0) u))) := by
  refine Call.enter hok (by decide) (Nat.le_of_ble_eq_true rfl) ?_
  show G E m_X5_take 1 0 0 _ h 0 [some (vR (7, 0)), some (vI (nI 97)), some (vI (nI u)), none, none] [] h 0 0
  refine g_iload_n (pc' := 1) dX5_take_0 rfl rfl ?_
  refine g_bipushN (n := 48) (pc' := 3) dX5_take_1 rfl (by decide) ?_
  refine g_icmp_neN (tgt := 14) (pc' := 6) dX5_take_3 rfl (by decide) (by decide) (by decide) (fun _ => ?_) (fun q => False.elim (by revert q; decide))
  refine g_iload_n (pc' := 15) dX5_take_14 rfl rfl ?_
  refine g_bipushN (n := 97) (pc' := 17) dX5_take_15 rfl (by decide) ?_
  refine g_icmp_neN (tgt := 50) (pc' := 20) dX5_take_17 rfl (by decide) (by decide) (by decide) (fun q => False.elim (by revert q; decide)) (fun _ => ?_)
  refine g_aload_n (pc' := 21) dX5_take_20 rfl rfl ?_
  refine g_iload_n (pc' := 22) dX5_take_21 rfl rfl ?_
  refine g_if_lt (tgt := 43) (pc' := 25) dX5_take_22 rfl (by decide) (fun c22 => ?_) (fun c22 => ?_)
  · exact absurd c22 (nI_nneg (by omega))
  ·
    refine g_iload_n (pc' := 26) dX5_take_25 rfl rfl ?_
    refine g_aload_n (pc' := 27) dX5_take_26 rfl rfl ?_
    refine g_getS (pc' := 30) (k := 0) (b := (42, 0)) dX5_take_27 rfl rfl ck_6 (by decide) fl_X5_15 rfl hs rfl ?_
    refine g_alen (pc' := 31) (v := nI 26) dX5_take_30 rfl rfl (by decide) rfl ?_
    refine g_icmp_geN (tgt := 43) (pc' := 34) dX5_take_31 rfl (by decide) (by omega) (by omega) (fun c31 => ?_) (fun c31 => ?_)
    · exact absurd c31 (by omega)
    ·
      refine g_aload_n (pc' := 35) dX5_take_34 rfl rfl ?_
      refine g_getS (pc' := 38) (k := 0) (b := (42, 0)) dX5_take_35 rfl rfl ck_6 (by decide) fl_X5_15 rfl hs rfl ?_
      refine g_iload_n (pc' := 39) dX5_take_38 rfl rfl ?_
      refine g_ialdN (pc' := 40) (v := _) dX5_take_39 rfl rfl (by decide) (by omega) (rfl) ?_
      refine g_goto (tgt := 44) dX5_take_40 (by decide) ?_
      refine g_invV (pc' := 47) (cx_push hok (by exact hs) (a := a) (by omega) (by exact hT.1) _) dX5_take_44 rfl rfl ck_6 rfl ml_X5_77 im_X5_push sl_X5_push in_X5 co_X5_push pd_X5_push rfl (by omega) (by decide) ⟨by decide, by decide⟩ (Nat.le_of_ble_eq_true rfl) ?_
      rintro _ _ ⟨rfl, rfl⟩ -
      refine g_goto (tgt := 98) dX5_take_47 (by decide) ?_
      refine g_vret dX5_take_98 rfl (by decide) (by decide) ?_
      exact ⟨rfl, ((Rk.rf a h).p (Nat.le_refl a)).t, RV_push hT.2⟩
set_option maxRecDepth 4000 in
theorem cx_take_33 {E : En} (hok : EOK E) {h : Hp} (hs : Shp h.2) {a : Nat} (ha : a < 200) (hT : Tp h (a + 1)) (hb : h.1 (43, 0) a = 0 ∨ h.1 (43, 0) a = 1) (x : Int32) : Call E m_X5_take 1 0 0 [vR (7, 0), vI (nI 33), vI x] h (fun r h' => r = none ∧ Rk a h h' ∧ RV h' a (vNot (some (h.1 (43, 0) a)))) := by
  refine Call.enter hok (by decide) (Nat.le_of_ble_eq_true rfl) ?_
  show G E m_X5_take 1 0 0 _ h 0 [some (vR (7, 0)), some (vI (nI 33)), some (vI x), none, none] [] h 0 0
  refine g_iload_n (pc' := 1) dX5_take_0 rfl rfl ?_
  refine g_bipushN (n := 48) (pc' := 3) dX5_take_1 rfl (by decide) ?_
  refine g_icmp_neN (tgt := 14) (pc' := 6) dX5_take_3 rfl (by decide) (by decide) (by decide) (fun _ => ?_) (fun q => False.elim (by revert q; decide))
  refine g_iload_n (pc' := 15) dX5_take_14 rfl rfl ?_
  refine g_bipushN (n := 97) (pc' := 17) dX5_take_15 rfl (by decide) ?_
  refine g_icmp_neN (tgt := 50) (pc' := 20) dX5_take_17 rfl (by decide) (by decide) (by decide) (fun _ => ?_) (fun q => False.elim (by revert q; decide))
  refine g_iload_n (pc' := 51) dX5_take_50 rfl rfl ?_
  refine g_bipushN (n := 33) (pc' := 53) dX5_take_51 rfl (by decide) ?_
  refine g_icmp_neN (tgt := 75) (pc' := 56) dX5_take_53 rfl (by decide) (by decide) (by decide) (fun q => False.elim (by revert q; decide)) (fun _ => ?_)
  refine g_aload_n (pc' := 57) dX5_take_56 rfl rfl ?_
  refine g_aload_n (pc' := 58) dX5_take_57 rfl rfl ?_
  refine g_invV (pc' := 61) (cx_pop hok (by exact hs) (a := a) (by omega) (by exact hT.1)) dX5_take_58 rfl rfl ck_6 rfl ml_X5_73 im_X5_pop sl_X5_pop in_X5 co_X5_pop pd_X5_pop rfl (by omega) (by decide) ⟨by decide, by decide⟩ (Nat.le_of_ble_eq_true rfl) ?_
  rintro _ _ ⟨rfl, rfl⟩ -
  refine g_if_ne (tgt := 68) (pc' := 64) dX5_take_61 rfl (by decide) (fun c61 => ?_) (fun c61 => ?_)
  ·
    refine g_iconstN (n := 0) (pc' := 69) dX5_take_68 rfl ?_
    refine g_invV (pc' := 72) (cx_push hok (by exact hs) (a := a) (by omega) (by exact wI_same _ _ _ _) _) dX5_take_69 rfl rfl ck_6 rfl ml_X5_77 im_X5_push sl_X5_push in_X5 co_X5_push pd_X5_push rfl (by omega) (by decide) ⟨by decide, by decide⟩ (Nat.le_of_ble_eq_true rfl) ?_
    rintro _ _ ⟨rfl, rfl⟩ -
    refine g_goto (tgt := 98) dX5_take_72 (by decide) ?_
    refine g_vret dX5_take_98 rfl (by decide) (by decide) ?_
    rw [show vNot (some (h.1 (43, 0) a)) = some (nI 0) from by rcases hb with z | z; exact absurd z c61; rw [z]; rfl]
    exact ⟨rfl, (((Rk.rf a h).t).p (Nat.le_refl a)).t, RV_push ((wI_f (by decide)).trans hT.2)⟩
  ·
    refine g_iconstN (n := 1) (pc' := 65) dX5_take_64 rfl ?_
    refine g_goto (tgt := 69) dX5_take_65 (by decide) ?_
    refine g_invV (pc' := 72) (cx_push hok (by exact hs) (a := a) (by omega) (by exact wI_same _ _ _ _) _) dX5_take_69 rfl rfl ck_6 rfl ml_X5_77 im_X5_push sl_X5_push in_X5 co_X5_push pd_X5_push rfl (by omega) (by decide) ⟨by decide, by decide⟩ (Nat.le_of_ble_eq_true rfl) ?_
    rintro _ _ ⟨rfl, rfl⟩ -
    refine g_goto (tgt := 98) dX5_take_72 (by decide) ?_
    refine g_vret dX5_take_98 rfl (by decide) (by decide) ?_
    rw [show vNot (some (h.1 (43, 0) a)) = some (nI 1) from by rw [c61]; rfl]
    exact ⟨rfl, (((Rk.rf a h).t).p (Nat.le_refl a)).t, RV_push ((wI_f (by decide)).trans hT.2)⟩
set_option maxRecDepth 4000 in
theorem cx_take_43 {E : En} (hok : EOK E) {h : Hp} (hs : Shp h.2) {a : Nat} (ha : a + 1 < 200) (hT : Tp h (a + 1 + 1)) (x : Int32) : Call E m_X5_take 1 0 0 [vR (7, 0), vI (nI 43), vI x] h (fun r h' => r = none ∧ Rk a h h' ∧ RV h' a (wkd 43 (h.1 (43, 0) a) (h.1 (43, 0) (a + 1)))) := by
  refine Call.enter hok (by decide) (Nat.le_of_ble_eq_true rfl) ?_
  show G E m_X5_take 1 0 0 _ h 0 [some (vR (7, 0)), some (vI (nI 43)), some (vI x), none, none] [] h 0 0
  refine g_iload_n (pc' := 1) dX5_take_0 rfl rfl ?_
  refine g_bipushN (n := 48) (pc' := 3) dX5_take_1 rfl (by decide) ?_
  refine g_icmp_neN (tgt := 14) (pc' := 6) dX5_take_3 rfl (by decide) (by decide) (by decide) (fun _ => ?_) (fun q => False.elim (by revert q; decide))
  refine g_iload_n (pc' := 15) dX5_take_14 rfl rfl ?_
  refine g_bipushN (n := 97) (pc' := 17) dX5_take_15 rfl (by decide) ?_
  refine g_icmp_neN (tgt := 50) (pc' := 20) dX5_take_17 rfl (by decide) (by decide) (by decide) (fun _ => ?_) (fun q => False.elim (by revert q; decide))
  refine g_iload_n (pc' := 51) dX5_take_50 rfl rfl ?_
  refine g_bipushN (n := 33) (pc' := 53) dX5_take_51 rfl (by decide) ?_
  refine g_icmp_neN (tgt := 75) (pc' := 56) dX5_take_53 rfl (by decide) (by decide) (by decide) (fun _ => ?_) (fun q => False.elim (by revert q; decide))
  refine g_aload_n (pc' := 76) dX5_take_75 rfl rfl ?_
  refine g_invV (pc' := 79) (cx_pop hok (by exact hs) (a := a + 1) (by omega) (by exact hT.1)) dX5_take_76 rfl rfl ck_6 rfl ml_X5_73 im_X5_pop sl_X5_pop in_X5 co_X5_pop pd_X5_pop rfl (by omega) (by decide) ⟨by decide, by decide⟩ (Nat.le_of_ble_eq_true rfl) ?_
  rintro _ _ ⟨rfl, rfl⟩ -
  refine g_istore_n (pc' := 80) dX5_take_79 rfl (by decide) rfl ?_
  try simp only [List.set]
  refine g_aload_n (pc' := 81) dX5_take_80 rfl rfl ?_
  refine g_invV (pc' := 84) (cx_pop hok (by exact hs) (a := a) (by omega) (by exact wI_same _ _ _ _)) dX5_take_81 rfl rfl ck_6 rfl ml_X5_73 im_X5_pop sl_X5_pop in_X5 co_X5_pop pd_X5_pop rfl (by omega) (by decide) ⟨by decide, by decide⟩ (Nat.le_of_ble_eq_true rfl) ?_
  rintro _ _ ⟨rfl, rfl⟩ -
  refine g_istore (pc' := 86) dX5_take_84 rfl (by decide) rfl ?_
  try simp only [List.set]
  refine g_aload_n (pc' := 87) dX5_take_86 rfl rfl ?_
  refine g_aload_n (pc' := 88) dX5_take_87 rfl rfl ?_
  refine g_iload (pc' := 90) dX5_take_88 rfl rfl ?_
  refine g_iload_n (pc' := 91) dX5_take_90 rfl rfl ?_
  refine g_iload_n (pc' := 92) dX5_take_91 rfl rfl ?_
  refine g_invV (pc' := 95) (cx_joined_43 hok _ _) dX5_take_92 rfl rfl ck_6 rfl ml_X5_85 im_X5_joined sl_X5_joined in_X5 co_X5_joined pd_X5_joined rfl (by omega) (by decide) ⟨by decide, by decide⟩ (Nat.le_of_ble_eq_true rfl) ?_
  rintro _ _ ⟨z, rfl, hz⟩ -
  rcases hz with ⟨hz, rfl⟩ | ⟨hz, rfl⟩
  ·
    refine g_invV (pc' := 98) (cx_push hok (by exact hs) (a := a) (by omega) (by exact wI_same _ _ _ _) _) dX5_take_95 rfl rfl ck_6 rfl ml_X5_77 im_X5_push sl_X5_push in_X5 co_X5_push pd_X5_push rfl (by omega) (by decide) ⟨by decide, by decide⟩ (Nat.le_of_ble_eq_true rfl) ?_
    rintro _ _ ⟨rfl, rfl⟩ -
    refine g_vret dX5_take_98 rfl (by decide) (by decide) ?_
    have hz2 : wkd 43 (h.1 (43, 0) a) (h.1 (43, 0) (a + 1)) = some z := hz
    rw [hz2]
    exact ⟨rfl, ((((Rk.rf a h).t).t).p (Nat.le_refl a)).t, RV_push ((wI_f (by decide)).trans ((wI_f (by decide)).trans hT.2))⟩
  ·
    refine g_invV (pc' := 98) (cx_push hok (by exact hs) (a := a) (by omega) (by exact (wI_f (by decide)).trans (wI_same _ _ _ _)) _) dX5_take_95 rfl rfl ck_6 rfl ml_X5_77 im_X5_push sl_X5_push in_X5 co_X5_push pd_X5_push rfl (by omega) (by decide) ⟨by decide, by decide⟩ (Nat.le_of_ble_eq_true rfl) ?_
    rintro _ _ ⟨rfl, rfl⟩ -
    refine g_vret dX5_take_98 rfl (by decide) (by decide) ?_
    have hz2 : wkd 43 (h.1 (43, 0) a) (h.1 (43, 0) (a + 1)) = none := hz
    rw [hz2]
    exact ⟨rfl, (((((Rk.rf a h).t).t).t).p (Nat.le_refl a)).t, RV_none (by rw [wI_same]; decide)⟩
set_option maxRecDepth 4000 in
theorem cx_take_45 {E : En} (hok : EOK E) {h : Hp} (hs : Shp h.2) {a : Nat} (ha : a + 1 < 200) (hT : Tp h (a + 1 + 1)) (x : Int32) : Call E m_X5_take 1 0 0 [vR (7, 0), vI (nI 45), vI x] h (fun r h' => r = none ∧ Rk a h h' ∧ RV h' a (wkd 45 (h.1 (43, 0) a) (h.1 (43, 0) (a + 1)))) := by
  refine Call.enter hok (by decide) (Nat.le_of_ble_eq_true rfl) ?_
  show G E m_X5_take 1 0 0 _ h 0 [some (vR (7, 0)), some (vI (nI 45)), some (vI x), none, none] [] h 0 0
  refine g_iload_n (pc' := 1) dX5_take_0 rfl rfl ?_
  refine g_bipushN (n := 48) (pc' := 3) dX5_take_1 rfl (by decide) ?_
  refine g_icmp_neN (tgt := 14) (pc' := 6) dX5_take_3 rfl (by decide) (by decide) (by decide) (fun _ => ?_) (fun q => False.elim (by revert q; decide))
  refine g_iload_n (pc' := 15) dX5_take_14 rfl rfl ?_
  refine g_bipushN (n := 97) (pc' := 17) dX5_take_15 rfl (by decide) ?_
  refine g_icmp_neN (tgt := 50) (pc' := 20) dX5_take_17 rfl (by decide) (by decide) (by decide) (fun _ => ?_) (fun q => False.elim (by revert q; decide))
  refine g_iload_n (pc' := 51) dX5_take_50 rfl rfl ?_
  refine g_bipushN (n := 33) (pc' := 53) dX5_take_51 rfl (by decide) ?_
  refine g_icmp_neN (tgt := 75) (pc' := 56) dX5_take_53 rfl (by decide) (by decide) (by decide) (fun _ => ?_) (fun q => False.elim (by revert q; decide))
  refine g_aload_n (pc' := 76) dX5_take_75 rfl rfl ?_
  refine g_invV (pc' := 79) (cx_pop hok (by exact hs) (a := a + 1) (by omega) (by exact hT.1)) dX5_take_76 rfl rfl ck_6 rfl ml_X5_73 im_X5_pop sl_X5_pop in_X5 co_X5_pop pd_X5_pop rfl (by omega) (by decide) ⟨by decide, by decide⟩ (Nat.le_of_ble_eq_true rfl) ?_
  rintro _ _ ⟨rfl, rfl⟩ -
  refine g_istore_n (pc' := 80) dX5_take_79 rfl (by decide) rfl ?_
  try simp only [List.set]
  refine g_aload_n (pc' := 81) dX5_take_80 rfl rfl ?_
  refine g_invV (pc' := 84) (cx_pop hok (by exact hs) (a := a) (by omega) (by exact wI_same _ _ _ _)) dX5_take_81 rfl rfl ck_6 rfl ml_X5_73 im_X5_pop sl_X5_pop in_X5 co_X5_pop pd_X5_pop rfl (by omega) (by decide) ⟨by decide, by decide⟩ (Nat.le_of_ble_eq_true rfl) ?_
  rintro _ _ ⟨rfl, rfl⟩ -
  refine g_istore (pc' := 86) dX5_take_84 rfl (by decide) rfl ?_
  try simp only [List.set]
  refine g_aload_n (pc' := 87) dX5_take_86 rfl rfl ?_
  refine g_aload_n (pc' := 88) dX5_take_87 rfl rfl ?_
  refine g_iload (pc' := 90) dX5_take_88 rfl rfl ?_
  refine g_iload_n (pc' := 91) dX5_take_90 rfl rfl ?_
  refine g_iload_n (pc' := 92) dX5_take_91 rfl rfl ?_
  refine g_invV (pc' := 95) (cx_joined_45 hok _ _) dX5_take_92 rfl rfl ck_6 rfl ml_X5_85 im_X5_joined sl_X5_joined in_X5 co_X5_joined pd_X5_joined rfl (by omega) (by decide) ⟨by decide, by decide⟩ (Nat.le_of_ble_eq_true rfl) ?_
  rintro _ _ ⟨z, rfl, hz⟩ -
  rcases hz with ⟨hz, rfl⟩ | ⟨hz, rfl⟩
  ·
    refine g_invV (pc' := 98) (cx_push hok (by exact hs) (a := a) (by omega) (by exact wI_same _ _ _ _) _) dX5_take_95 rfl rfl ck_6 rfl ml_X5_77 im_X5_push sl_X5_push in_X5 co_X5_push pd_X5_push rfl (by omega) (by decide) ⟨by decide, by decide⟩ (Nat.le_of_ble_eq_true rfl) ?_
    rintro _ _ ⟨rfl, rfl⟩ -
    refine g_vret dX5_take_98 rfl (by decide) (by decide) ?_
    have hz2 : wkd 45 (h.1 (43, 0) a) (h.1 (43, 0) (a + 1)) = some z := hz
    rw [hz2]
    exact ⟨rfl, ((((Rk.rf a h).t).t).p (Nat.le_refl a)).t, RV_push ((wI_f (by decide)).trans ((wI_f (by decide)).trans hT.2))⟩
  ·
    refine g_invV (pc' := 98) (cx_push hok (by exact hs) (a := a) (by omega) (by exact (wI_f (by decide)).trans (wI_same _ _ _ _)) _) dX5_take_95 rfl rfl ck_6 rfl ml_X5_77 im_X5_push sl_X5_push in_X5 co_X5_push pd_X5_push rfl (by omega) (by decide) ⟨by decide, by decide⟩ (Nat.le_of_ble_eq_true rfl) ?_
    rintro _ _ ⟨rfl, rfl⟩ -
    refine g_vret dX5_take_98 rfl (by decide) (by decide) ?_
    have hz2 : wkd 45 (h.1 (43, 0) a) (h.1 (43, 0) (a + 1)) = none := hz
    rw [hz2]
    exact ⟨rfl, (((((Rk.rf a h).t).t).t).p (Nat.le_refl a)).t, RV_none (by rw [wI_same]; decide)⟩
set_option maxRecDepth 4000 in
theorem cx_take_42 {E : En} (hok : EOK E) {h : Hp} (hs : Shp h.2) {a : Nat} (ha : a + 1 < 200) (hT : Tp h (a + 1 + 1)) (x : Int32) : Call E m_X5_take 1 0 0 [vR (7, 0), vI (nI 42), vI x] h (fun r h' => r = none ∧ Rk a h h' ∧ RV h' a (wkd 42 (h.1 (43, 0) a) (h.1 (43, 0) (a + 1)))) := by
  refine Call.enter hok (by decide) (Nat.le_of_ble_eq_true rfl) ?_
  show G E m_X5_take 1 0 0 _ h 0 [some (vR (7, 0)), some (vI (nI 42)), some (vI x), none, none] [] h 0 0
  refine g_iload_n (pc' := 1) dX5_take_0 rfl rfl ?_
  refine g_bipushN (n := 48) (pc' := 3) dX5_take_1 rfl (by decide) ?_
  refine g_icmp_neN (tgt := 14) (pc' := 6) dX5_take_3 rfl (by decide) (by decide) (by decide) (fun _ => ?_) (fun q => False.elim (by revert q; decide))
  refine g_iload_n (pc' := 15) dX5_take_14 rfl rfl ?_
  refine g_bipushN (n := 97) (pc' := 17) dX5_take_15 rfl (by decide) ?_
  refine g_icmp_neN (tgt := 50) (pc' := 20) dX5_take_17 rfl (by decide) (by decide) (by decide) (fun _ => ?_) (fun q => False.elim (by revert q; decide))
  refine g_iload_n (pc' := 51) dX5_take_50 rfl rfl ?_
  refine g_bipushN (n := 33) (pc' := 53) dX5_take_51 rfl (by decide) ?_
  refine g_icmp_neN (tgt := 75) (pc' := 56) dX5_take_53 rfl (by decide) (by decide) (by decide) (fun _ => ?_) (fun q => False.elim (by revert q; decide))
  refine g_aload_n (pc' := 76) dX5_take_75 rfl rfl ?_
  refine g_invV (pc' := 79) (cx_pop hok (by exact hs) (a := a + 1) (by omega) (by exact hT.1)) dX5_take_76 rfl rfl ck_6 rfl ml_X5_73 im_X5_pop sl_X5_pop in_X5 co_X5_pop pd_X5_pop rfl (by omega) (by decide) ⟨by decide, by decide⟩ (Nat.le_of_ble_eq_true rfl) ?_
  rintro _ _ ⟨rfl, rfl⟩ -
  refine g_istore_n (pc' := 80) dX5_take_79 rfl (by decide) rfl ?_
  try simp only [List.set]
  refine g_aload_n (pc' := 81) dX5_take_80 rfl rfl ?_
  refine g_invV (pc' := 84) (cx_pop hok (by exact hs) (a := a) (by omega) (by exact wI_same _ _ _ _)) dX5_take_81 rfl rfl ck_6 rfl ml_X5_73 im_X5_pop sl_X5_pop in_X5 co_X5_pop pd_X5_pop rfl (by omega) (by decide) ⟨by decide, by decide⟩ (Nat.le_of_ble_eq_true rfl) ?_
  rintro _ _ ⟨rfl, rfl⟩ -
  refine g_istore (pc' := 86) dX5_take_84 rfl (by decide) rfl ?_
  try simp only [List.set]
  refine g_aload_n (pc' := 87) dX5_take_86 rfl rfl ?_
  refine g_aload_n (pc' := 88) dX5_take_87 rfl rfl ?_
  refine g_iload (pc' := 90) dX5_take_88 rfl rfl ?_
  refine g_iload_n (pc' := 91) dX5_take_90 rfl rfl ?_
  refine g_iload_n (pc' := 92) dX5_take_91 rfl rfl ?_
  refine g_invV (pc' := 95) (cx_joined_42 hok _ _) dX5_take_92 rfl rfl ck_6 rfl ml_X5_85 im_X5_joined sl_X5_joined in_X5 co_X5_joined pd_X5_joined rfl (by omega) (by decide) ⟨by decide, by decide⟩ (Nat.le_of_ble_eq_true rfl) ?_
  rintro _ _ ⟨z, rfl, hz⟩ -
  rcases hz with ⟨hz, rfl⟩ | ⟨hz, rfl⟩
  ·
    refine g_invV (pc' := 98) (cx_push hok (by exact hs) (a := a) (by omega) (by exact wI_same _ _ _ _) _) dX5_take_95 rfl rfl ck_6 rfl ml_X5_77 im_X5_push sl_X5_push in_X5 co_X5_push pd_X5_push rfl (by omega) (by decide) ⟨by decide, by decide⟩ (Nat.le_of_ble_eq_true rfl) ?_
    rintro _ _ ⟨rfl, rfl⟩ -
    refine g_vret dX5_take_98 rfl (by decide) (by decide) ?_
    have hz2 : wkd 42 (h.1 (43, 0) a) (h.1 (43, 0) (a + 1)) = some z := hz
    rw [hz2]
    exact ⟨rfl, ((((Rk.rf a h).t).t).p (Nat.le_refl a)).t, RV_push ((wI_f (by decide)).trans ((wI_f (by decide)).trans hT.2))⟩
  ·
    refine g_invV (pc' := 98) (cx_push hok (by exact hs) (a := a) (by omega) (by exact (wI_f (by decide)).trans (wI_same _ _ _ _)) _) dX5_take_95 rfl rfl ck_6 rfl ml_X5_77 im_X5_push sl_X5_push in_X5 co_X5_push pd_X5_push rfl (by omega) (by decide) ⟨by decide, by decide⟩ (Nat.le_of_ble_eq_true rfl) ?_
    rintro _ _ ⟨rfl, rfl⟩ -
    refine g_vret dX5_take_98 rfl (by decide) (by decide) ?_
    have hz2 : wkd 42 (h.1 (43, 0) a) (h.1 (43, 0) (a + 1)) = none := hz
    rw [hz2]
    exact ⟨rfl, (((((Rk.rf a h).t).t).t).p (Nat.le_refl a)).t, RV_none (by rw [wI_same]; decide)⟩
set_option maxRecDepth 4000 in
theorem cx_take_47 {E : En} (hok : EOK E) {h : Hp} (hs : Shp h.2) {a : Nat} (ha : a + 1 < 200) (hT : Tp h (a + 1 + 1)) (x : Int32) : Call E m_X5_take 1 0 0 [vR (7, 0), vI (nI 47), vI x] h (fun r h' => r = none ∧ Rk a h h' ∧ RV h' a (wkd 47 (h.1 (43, 0) a) (h.1 (43, 0) (a + 1)))) := by
  refine Call.enter hok (by decide) (Nat.le_of_ble_eq_true rfl) ?_
  show G E m_X5_take 1 0 0 _ h 0 [some (vR (7, 0)), some (vI (nI 47)), some (vI x), none, none] [] h 0 0
  refine g_iload_n (pc' := 1) dX5_take_0 rfl rfl ?_
  refine g_bipushN (n := 48) (pc' := 3) dX5_take_1 rfl (by decide) ?_
  refine g_icmp_neN (tgt := 14) (pc' := 6) dX5_take_3 rfl (by decide) (by decide) (by decide) (fun _ => ?_) (fun q => False.elim (by revert q; decide))
  refine g_iload_n (pc' := 15) dX5_take_14 rfl rfl ?_
  refine g_bipushN (n := 97) (pc' := 17) dX5_take_15 rfl (by decide) ?_
  refine g_icmp_neN (tgt := 50) (pc' := 20) dX5_take_17 rfl (by decide) (by decide) (by decide) (fun _ => ?_) (fun q => False.elim (by revert q; decide))
  refine g_iload_n (pc' := 51) dX5_take_50 rfl rfl ?_
  refine g_bipushN (n := 33) (pc' := 53) dX5_take_51 rfl (by decide) ?_
  refine g_icmp_neN (tgt := 75) (pc' := 56) dX5_take_53 rfl (by decide) (by decide) (by decide) (fun _ => ?_) (fun q => False.elim (by revert q; decide))
  refine g_aload_n (pc' := 76) dX5_take_75 rfl rfl ?_
  refine g_invV (pc' := 79) (cx_pop hok (by exact hs) (a := a + 1) (by omega) (by exact hT.1)) dX5_take_76 rfl rfl ck_6 rfl ml_X5_73 im_X5_pop sl_X5_pop in_X5 co_X5_pop pd_X5_pop rfl (by omega) (by decide) ⟨by decide, by decide⟩ (Nat.le_of_ble_eq_true rfl) ?_
  rintro _ _ ⟨rfl, rfl⟩ -
  refine g_istore_n (pc' := 80) dX5_take_79 rfl (by decide) rfl ?_
  try simp only [List.set]
  refine g_aload_n (pc' := 81) dX5_take_80 rfl rfl ?_
  refine g_invV (pc' := 84) (cx_pop hok (by exact hs) (a := a) (by omega) (by exact wI_same _ _ _ _)) dX5_take_81 rfl rfl ck_6 rfl ml_X5_73 im_X5_pop sl_X5_pop in_X5 co_X5_pop pd_X5_pop rfl (by omega) (by decide) ⟨by decide, by decide⟩ (Nat.le_of_ble_eq_true rfl) ?_
  rintro _ _ ⟨rfl, rfl⟩ -
  refine g_istore (pc' := 86) dX5_take_84 rfl (by decide) rfl ?_
  try simp only [List.set]
  refine g_aload_n (pc' := 87) dX5_take_86 rfl rfl ?_
  refine g_aload_n (pc' := 88) dX5_take_87 rfl rfl ?_
  refine g_iload (pc' := 90) dX5_take_88 rfl rfl ?_
  refine g_iload_n (pc' := 91) dX5_take_90 rfl rfl ?_
  refine g_iload_n (pc' := 92) dX5_take_91 rfl rfl ?_
  refine g_invV (pc' := 95) (cx_joined_47 hok _ _) dX5_take_92 rfl rfl ck_6 rfl ml_X5_85 im_X5_joined sl_X5_joined in_X5 co_X5_joined pd_X5_joined rfl (by omega) (by decide) ⟨by decide, by decide⟩ (Nat.le_of_ble_eq_true rfl) ?_
  rintro _ _ ⟨z, rfl, hz⟩ -
  rcases hz with ⟨hz, rfl⟩ | ⟨hz, rfl⟩
  ·
    refine g_invV (pc' := 98) (cx_push hok (by exact hs) (a := a) (by omega) (by exact wI_same _ _ _ _) _) dX5_take_95 rfl rfl ck_6 rfl ml_X5_77 im_X5_push sl_X5_push in_X5 co_X5_push pd_X5_push rfl (by omega) (by decide) ⟨by decide, by decide⟩ (Nat.le_of_ble_eq_true rfl) ?_
    rintro _ _ ⟨rfl, rfl⟩ -
    refine g_vret dX5_take_98 rfl (by decide) (by decide) ?_
    have hz2 : wkd 47 (h.1 (43, 0) a) (h.1 (43, 0) (a + 1)) = some z := hz
    rw [hz2]
    exact ⟨rfl, ((((Rk.rf a h).t).t).p (Nat.le_refl a)).t, RV_push ((wI_f (by decide)).trans ((wI_f (by decide)).trans hT.2))⟩
  ·
    refine g_invV (pc' := 98) (cx_push hok (by exact hs) (a := a) (by omega) (by exact (wI_f (by decide)).trans (wI_same _ _ _ _)) _) dX5_take_95 rfl rfl ck_6 rfl ml_X5_77 im_X5_push sl_X5_push in_X5 co_X5_push pd_X5_push rfl (by omega) (by decide) ⟨by decide, by decide⟩ (Nat.le_of_ble_eq_true rfl) ?_
    rintro _ _ ⟨rfl, rfl⟩ -
    refine g_vret dX5_take_98 rfl (by decide) (by decide) ?_
    have hz2 : wkd 47 (h.1 (43, 0) a) (h.1 (43, 0) (a + 1)) = none := hz
    rw [hz2]
    exact ⟨rfl, (((((Rk.rf a h).t).t).t).p (Nat.le_refl a)).t, RV_none (by rw [wI_same]; decide)⟩
set_option maxRecDepth 4000 in
theorem cx_take_37 {E : En} (hok : EOK E) {h : Hp} (hs : Shp h.2) {a : Nat} (ha : a + 1 < 200) (hT : Tp h (a + 1 + 1)) (x : Int32) : Call E m_X5_take 1 0 0 [vR (7, 0), vI (nI 37), vI x] h (fun r h' => r = none ∧ Rk a h h' ∧ RV h' a (wkd 37 (h.1 (43, 0) a) (h.1 (43, 0) (a + 1)))) := by
  refine Call.enter hok (by decide) (Nat.le_of_ble_eq_true rfl) ?_
  show G E m_X5_take 1 0 0 _ h 0 [some (vR (7, 0)), some (vI (nI 37)), some (vI x), none, none] [] h 0 0
  refine g_iload_n (pc' := 1) dX5_take_0 rfl rfl ?_
  refine g_bipushN (n := 48) (pc' := 3) dX5_take_1 rfl (by decide) ?_
  refine g_icmp_neN (tgt := 14) (pc' := 6) dX5_take_3 rfl (by decide) (by decide) (by decide) (fun _ => ?_) (fun q => False.elim (by revert q; decide))
  refine g_iload_n (pc' := 15) dX5_take_14 rfl rfl ?_
  refine g_bipushN (n := 97) (pc' := 17) dX5_take_15 rfl (by decide) ?_
  refine g_icmp_neN (tgt := 50) (pc' := 20) dX5_take_17 rfl (by decide) (by decide) (by decide) (fun _ => ?_) (fun q => False.elim (by revert q; decide))
  refine g_iload_n (pc' := 51) dX5_take_50 rfl rfl ?_
  refine g_bipushN (n := 33) (pc' := 53) dX5_take_51 rfl (by decide) ?_
  refine g_icmp_neN (tgt := 75) (pc' := 56) dX5_take_53 rfl (by decide) (by decide) (by decide) (fun _ => ?_) (fun q => False.elim (by revert q; decide))
  refine g_aload_n (pc' := 76) dX5_take_75 rfl rfl ?_
  refine g_invV (pc' := 79) (cx_pop hok (by exact hs) (a := a + 1) (by omega) (by exact hT.1)) dX5_take_76 rfl rfl ck_6 rfl ml_X5_73 im_X5_pop sl_X5_pop in_X5 co_X5_pop pd_X5_pop rfl (by omega) (by decide) ⟨by decide, by decide⟩ (Nat.le_of_ble_eq_true rfl) ?_
  rintro _ _ ⟨rfl, rfl⟩ -
  refine g_istore_n (pc' := 80) dX5_take_79 rfl (by decide) rfl ?_
  try simp only [List.set]
  refine g_aload_n (pc' := 81) dX5_take_80 rfl rfl ?_
  refine g_invV (pc' := 84) (cx_pop hok (by exact hs) (a := a) (by omega) (by exact wI_same _ _ _ _)) dX5_take_81 rfl rfl ck_6 rfl ml_X5_73 im_X5_pop sl_X5_pop in_X5 co_X5_pop pd_X5_pop rfl (by omega) (by decide) ⟨by decide, by decide⟩ (Nat.le_of_ble_eq_true rfl) ?_
  rintro _ _ ⟨rfl, rfl⟩ -
  refine g_istore (pc' := 86) dX5_take_84 rfl (by decide) rfl ?_
  try simp only [List.set]
  refine g_aload_n (pc' := 87) dX5_take_86 rfl rfl ?_
  refine g_aload_n (pc' := 88) dX5_take_87 rfl rfl ?_
  refine g_iload (pc' := 90) dX5_take_88 rfl rfl ?_
  refine g_iload_n (pc' := 91) dX5_take_90 rfl rfl ?_
  refine g_iload_n (pc' := 92) dX5_take_91 rfl rfl ?_
  refine g_invV (pc' := 95) (cx_joined_37 hok _ _) dX5_take_92 rfl rfl ck_6 rfl ml_X5_85 im_X5_joined sl_X5_joined in_X5 co_X5_joined pd_X5_joined rfl (by omega) (by decide) ⟨by decide, by decide⟩ (Nat.le_of_ble_eq_true rfl) ?_
  rintro _ _ ⟨z, rfl, hz⟩ -
  rcases hz with ⟨hz, rfl⟩ | ⟨hz, rfl⟩
  ·
    refine g_invV (pc' := 98) (cx_push hok (by exact hs) (a := a) (by omega) (by exact wI_same _ _ _ _) _) dX5_take_95 rfl rfl ck_6 rfl ml_X5_77 im_X5_push sl_X5_push in_X5 co_X5_push pd_X5_push rfl (by omega) (by decide) ⟨by decide, by decide⟩ (Nat.le_of_ble_eq_true rfl) ?_
    rintro _ _ ⟨rfl, rfl⟩ -
    refine g_vret dX5_take_98 rfl (by decide) (by decide) ?_
    have hz2 : wkd 37 (h.1 (43, 0) a) (h.1 (43, 0) (a + 1)) = some z := hz
    rw [hz2]
    exact ⟨rfl, ((((Rk.rf a h).t).t).p (Nat.le_refl a)).t, RV_push ((wI_f (by decide)).trans ((wI_f (by decide)).trans hT.2))⟩
  ·
    refine g_invV (pc' := 98) (cx_push hok (by exact hs) (a := a) (by omega) (by exact (wI_f (by decide)).trans (wI_same _ _ _ _)) _) dX5_take_95 rfl rfl ck_6 rfl ml_X5_77 im_X5_push sl_X5_push in_X5 co_X5_push pd_X5_push rfl (by omega) (by decide) ⟨by decide, by decide⟩ (Nat.le_of_ble_eq_true rfl) ?_
    rintro _ _ ⟨rfl, rfl⟩ -
    refine g_vret dX5_take_98 rfl (by decide) (by decide) ?_
    have hz2 : wkd 37 (h.1 (43, 0) a) (h.1 (43, 0) (a + 1)) = none := hz
    rw [hz2]
    exact ⟨rfl, (((((Rk.rf a h).t).t).t).p (Nat.le_refl a)).t, RV_none (by rw [wI_same]; decide)⟩
set_option maxRecDepth 4000 in
theorem cx_take_60 {E : En} (hok : EOK E) {h : Hp} (hs : Shp h.2) {a : Nat} (ha : a + 1 < 200) (hT : Tp h (a + 1 + 1)) (x : Int32) : Call E m_X5_take 1 0 0 [vR (7, 0), vI (nI 60), vI x] h (fun r h' => r = none ∧ Rk a h h' ∧ RV h' a (wkd 60 (h.1 (43, 0) a) (h.1 (43, 0) (a + 1)))) := by
  refine Call.enter hok (by decide) (Nat.le_of_ble_eq_true rfl) ?_
  show G E m_X5_take 1 0 0 _ h 0 [some (vR (7, 0)), some (vI (nI 60)), some (vI x), none, none] [] h 0 0
  refine g_iload_n (pc' := 1) dX5_take_0 rfl rfl ?_
  refine g_bipushN (n := 48) (pc' := 3) dX5_take_1 rfl (by decide) ?_
  refine g_icmp_neN (tgt := 14) (pc' := 6) dX5_take_3 rfl (by decide) (by decide) (by decide) (fun _ => ?_) (fun q => False.elim (by revert q; decide))
  refine g_iload_n (pc' := 15) dX5_take_14 rfl rfl ?_
  refine g_bipushN (n := 97) (pc' := 17) dX5_take_15 rfl (by decide) ?_
  refine g_icmp_neN (tgt := 50) (pc' := 20) dX5_take_17 rfl (by decide) (by decide) (by decide) (fun _ => ?_) (fun q => False.elim (by revert q; decide))
  refine g_iload_n (pc' := 51) dX5_take_50 rfl rfl ?_
  refine g_bipushN (n := 33) (pc' := 53) dX5_take_51 rfl (by decide) ?_
  refine g_icmp_neN (tgt := 75) (pc' := 56) dX5_take_53 rfl (by decide) (by decide) (by decide) (fun _ => ?_) (fun q => False.elim (by revert q; decide))
  refine g_aload_n (pc' := 76) dX5_take_75 rfl rfl ?_
  refine g_invV (pc' := 79) (cx_pop hok (by exact hs) (a := a + 1) (by omega) (by exact hT.1)) dX5_take_76 rfl rfl ck_6 rfl ml_X5_73 im_X5_pop sl_X5_pop in_X5 co_X5_pop pd_X5_pop rfl (by omega) (by decide) ⟨by decide, by decide⟩ (Nat.le_of_ble_eq_true rfl) ?_
  rintro _ _ ⟨rfl, rfl⟩ -
  refine g_istore_n (pc' := 80) dX5_take_79 rfl (by decide) rfl ?_
  try simp only [List.set]
  refine g_aload_n (pc' := 81) dX5_take_80 rfl rfl ?_
  refine g_invV (pc' := 84) (cx_pop hok (by exact hs) (a := a) (by omega) (by exact wI_same _ _ _ _)) dX5_take_81 rfl rfl ck_6 rfl ml_X5_73 im_X5_pop sl_X5_pop in_X5 co_X5_pop pd_X5_pop rfl (by omega) (by decide) ⟨by decide, by decide⟩ (Nat.le_of_ble_eq_true rfl) ?_
  rintro _ _ ⟨rfl, rfl⟩ -
  refine g_istore (pc' := 86) dX5_take_84 rfl (by decide) rfl ?_
  try simp only [List.set]
  refine g_aload_n (pc' := 87) dX5_take_86 rfl rfl ?_
  refine g_aload_n (pc' := 88) dX5_take_87 rfl rfl ?_
  refine g_iload (pc' := 90) dX5_take_88 rfl rfl ?_
  refine g_iload_n (pc' := 91) dX5_take_90 rfl rfl ?_
  refine g_iload_n (pc' := 92) dX5_take_91 rfl rfl ?_
  refine g_invV (pc' := 95) (cx_joined_60 hok _ _) dX5_take_92 rfl rfl ck_6 rfl ml_X5_85 im_X5_joined sl_X5_joined in_X5 co_X5_joined pd_X5_joined rfl (by omega) (by decide) ⟨by decide, by decide⟩ (Nat.le_of_ble_eq_true rfl) ?_
  rintro _ _ ⟨z, rfl, hz⟩ -
  rcases hz with ⟨hz, rfl⟩ | ⟨hz, rfl⟩
  ·
    refine g_invV (pc' := 98) (cx_push hok (by exact hs) (a := a) (by omega) (by exact wI_same _ _ _ _) _) dX5_take_95 rfl rfl ck_6 rfl ml_X5_77 im_X5_push sl_X5_push in_X5 co_X5_push pd_X5_push rfl (by omega) (by decide) ⟨by decide, by decide⟩ (Nat.le_of_ble_eq_true rfl) ?_
    rintro _ _ ⟨rfl, rfl⟩ -
    refine g_vret dX5_take_98 rfl (by decide) (by decide) ?_
    have hz2 : wkd 60 (h.1 (43, 0) a) (h.1 (43, 0) (a + 1)) = some z := hz
    rw [hz2]
    exact ⟨rfl, ((((Rk.rf a h).t).t).p (Nat.le_refl a)).t, RV_push ((wI_f (by decide)).trans ((wI_f (by decide)).trans hT.2))⟩
  ·
    refine g_invV (pc' := 98) (cx_push hok (by exact hs) (a := a) (by omega) (by exact (wI_f (by decide)).trans (wI_same _ _ _ _)) _) dX5_take_95 rfl rfl ck_6 rfl ml_X5_77 im_X5_push sl_X5_push in_X5 co_X5_push pd_X5_push rfl (by omega) (by decide) ⟨by decide, by decide⟩ (Nat.le_of_ble_eq_true rfl) ?_
    rintro _ _ ⟨rfl, rfl⟩ -
    refine g_vret dX5_take_98 rfl (by decide) (by decide) ?_
    have hz2 : wkd 60 (h.1 (43, 0) a) (h.1 (43, 0) (a + 1)) = none := hz
    rw [hz2]
    exact ⟨rfl, (((((Rk.rf a h).t).t).t).p (Nat.le_refl a)).t, RV_none (by rw [wI_same]; decide)⟩
set_option maxRecDepth 4000 in
theorem cx_take_62 {E : En} (hok : EOK E) {h : Hp} (hs : Shp h.2) {a : Nat} (ha : a + 1 < 200) (hT : Tp h (a + 1 + 1)) (x : Int32) : Call E m_X5_take 1 0 0 [vR (7, 0), vI (nI 62), vI x] h (fun r h' => r = none ∧ Rk a h h' ∧ RV h' a (wkd 62 (h.1 (43, 0) a) (h.1 (43, 0) (a + 1)))) := by
  refine Call.enter hok (by decide) (Nat.le_of_ble_eq_true rfl) ?_
  show G E m_X5_take 1 0 0 _ h 0 [some (vR (7, 0)), some (vI (nI 62)), some (vI x), none, none] [] h 0 0
  refine g_iload_n (pc' := 1) dX5_take_0 rfl rfl ?_
  refine g_bipushN (n := 48) (pc' := 3) dX5_take_1 rfl (by decide) ?_
  refine g_icmp_neN (tgt := 14) (pc' := 6) dX5_take_3 rfl (by decide) (by decide) (by decide) (fun _ => ?_) (fun q => False.elim (by revert q; decide))
  refine g_iload_n (pc' := 15) dX5_take_14 rfl rfl ?_
  refine g_bipushN (n := 97) (pc' := 17) dX5_take_15 rfl (by decide) ?_
  refine g_icmp_neN (tgt := 50) (pc' := 20) dX5_take_17 rfl (by decide) (by decide) (by decide) (fun _ => ?_) (fun q => False.elim (by revert q; decide))
  refine g_iload_n (pc' := 51) dX5_take_50 rfl rfl ?_
  refine g_bipushN (n := 33) (pc' := 53) dX5_take_51 rfl (by decide) ?_
  refine g_icmp_neN (tgt := 75) (pc' := 56) dX5_take_53 rfl (by decide) (by decide) (by decide) (fun _ => ?_) (fun q => False.elim (by revert q; decide))
  refine g_aload_n (pc' := 76) dX5_take_75 rfl rfl ?_
  refine g_invV (pc' := 79) (cx_pop hok (by exact hs) (a := a + 1) (by omega) (by exact hT.1)) dX5_take_76 rfl rfl ck_6 rfl ml_X5_73 im_X5_pop sl_X5_pop in_X5 co_X5_pop pd_X5_pop rfl (by omega) (by decide) ⟨by decide, by decide⟩ (Nat.le_of_ble_eq_true rfl) ?_
  rintro _ _ ⟨rfl, rfl⟩ -
  refine g_istore_n (pc' := 80) dX5_take_79 rfl (by decide) rfl ?_
  try simp only [List.set]
  refine g_aload_n (pc' := 81) dX5_take_80 rfl rfl ?_
  refine g_invV (pc' := 84) (cx_pop hok (by exact hs) (a := a) (by omega) (by exact wI_same _ _ _ _)) dX5_take_81 rfl rfl ck_6 rfl ml_X5_73 im_X5_pop sl_X5_pop in_X5 co_X5_pop pd_X5_pop rfl (by omega) (by decide) ⟨by decide, by decide⟩ (Nat.le_of_ble_eq_true rfl) ?_
  rintro _ _ ⟨rfl, rfl⟩ -
  refine g_istore (pc' := 86) dX5_take_84 rfl (by decide) rfl ?_
  try simp only [List.set]
  refine g_aload_n (pc' := 87) dX5_take_86 rfl rfl ?_
  refine g_aload_n (pc' := 88) dX5_take_87 rfl rfl ?_
  refine g_iload (pc' := 90) dX5_take_88 rfl rfl ?_
  refine g_iload_n (pc' := 91) dX5_take_90 rfl rfl ?_
  refine g_iload_n (pc' := 92) dX5_take_91 rfl rfl ?_
  refine g_invV (pc' := 95) (cx_joined_62 hok _ _) dX5_take_92 rfl rfl ck_6 rfl ml_X5_85 im_X5_joined sl_X5_joined in_X5 co_X5_joined pd_X5_joined rfl (by omega) (by decide) ⟨by decide, by decide⟩ (Nat.le_of_ble_eq_true rfl) ?_
  rintro _ _ ⟨z, rfl, hz⟩ -
  rcases hz with ⟨hz, rfl⟩ | ⟨hz, rfl⟩
  ·
    refine g_invV (pc' := 98) (cx_push hok (by exact hs) (a := a) (by omega) (by exact wI_same _ _ _ _) _) dX5_take_95 rfl rfl ck_6 rfl ml_X5_77 im_X5_push sl_X5_push in_X5 co_X5_push pd_X5_push rfl (by omega) (by decide) ⟨by decide, by decide⟩ (Nat.le_of_ble_eq_true rfl) ?_
    rintro _ _ ⟨rfl, rfl⟩ -
    refine g_vret dX5_take_98 rfl (by decide) (by decide) ?_
    have hz2 : wkd 62 (h.1 (43, 0) a) (h.1 (43, 0) (a + 1)) = some z := hz
    rw [hz2]
    exact ⟨rfl, ((((Rk.rf a h).t).t).p (Nat.le_refl a)).t, RV_push ((wI_f (by decide)).trans ((wI_f (by decide)).trans hT.2))⟩
  ·
    refine g_invV (pc' := 98) (cx_push hok (by exact hs) (a := a) (by omega) (by exact (wI_f (by decide)).trans (wI_same _ _ _ _)) _) dX5_take_95 rfl rfl ck_6 rfl ml_X5_77 im_X5_push sl_X5_push in_X5 co_X5_push pd_X5_push rfl (by omega) (by decide) ⟨by decide, by decide⟩ (Nat.le_of_ble_eq_true rfl) ?_
    rintro _ _ ⟨rfl, rfl⟩ -
    refine g_vret dX5_take_98 rfl (by decide) (by decide) ?_
    have hz2 : wkd 62 (h.1 (43, 0) a) (h.1 (43, 0) (a + 1)) = none := hz
    rw [hz2]
    exact ⟨rfl, (((((Rk.rf a h).t).t).t).p (Nat.le_refl a)).t, RV_none (by rw [wI_same]; decide)⟩
set_option maxRecDepth 4000 in
theorem cx_take_61 {E : En} (hok : EOK E) {h : Hp} (hs : Shp h.2) {a : Nat} (ha : a + 1 < 200) (hT : Tp h (a + 1 + 1)) (x : Int32) : Call E m_X5_take 1 0 0 [vR (7, 0), vI (nI 61), vI x] h (fun r h' => r = none ∧ Rk a h h' ∧ RV h' a (wkd 61 (h.1 (43, 0) a) (h.1 (43, 0) (a + 1)))) := by
  refine Call.enter hok (by decide) (Nat.le_of_ble_eq_true rfl) ?_
  show G E m_X5_take 1 0 0 _ h 0 [some (vR (7, 0)), some (vI (nI 61)), some (vI x), none, none] [] h 0 0
  refine g_iload_n (pc' := 1) dX5_take_0 rfl rfl ?_
  refine g_bipushN (n := 48) (pc' := 3) dX5_take_1 rfl (by decide) ?_
  refine g_icmp_neN (tgt := 14) (pc' := 6) dX5_take_3 rfl (by decide) (by decide) (by decide) (fun _ => ?_) (fun q => False.elim (by revert q; decide))
  refine g_iload_n (pc' := 15) dX5_take_14 rfl rfl ?_
  refine g_bipushN (n := 97) (pc' := 17) dX5_take_15 rfl (by decide) ?_
  refine g_icmp_neN (tgt := 50) (pc' := 20) dX5_take_17 rfl (by decide) (by decide) (by decide) (fun _ => ?_) (fun q => False.elim (by revert q; decide))
  refine g_iload_n (pc' := 51) dX5_take_50 rfl rfl ?_
  refine g_bipushN (n := 33) (pc' := 53) dX5_take_51 rfl (by decide) ?_
  refine g_icmp_neN (tgt := 75) (pc' := 56) dX5_take_53 rfl (by decide) (by decide) (by decide) (fun _ => ?_) (fun q => False.elim (by revert q; decide))
  refine g_aload_n (pc' := 76) dX5_take_75 rfl rfl ?_
  refine g_invV (pc' := 79) (cx_pop hok (by exact hs) (a := a + 1) (by omega) (by exact hT.1)) dX5_take_76 rfl rfl ck_6 rfl ml_X5_73 im_X5_pop sl_X5_pop in_X5 co_X5_pop pd_X5_pop rfl (by omega) (by decide) ⟨by decide, by decide⟩ (Nat.le_of_ble_eq_true rfl) ?_
  rintro _ _ ⟨rfl, rfl⟩ -
  refine g_istore_n (pc' := 80) dX5_take_79 rfl (by decide) rfl ?_
  try simp only [List.set]
  refine g_aload_n (pc' := 81) dX5_take_80 rfl rfl ?_
  refine g_invV (pc' := 84) (cx_pop hok (by exact hs) (a := a) (by omega) (by exact wI_same _ _ _ _)) dX5_take_81 rfl rfl ck_6 rfl ml_X5_73 im_X5_pop sl_X5_pop in_X5 co_X5_pop pd_X5_pop rfl (by omega) (by decide) ⟨by decide, by decide⟩ (Nat.le_of_ble_eq_true rfl) ?_
  rintro _ _ ⟨rfl, rfl⟩ -
  refine g_istore (pc' := 86) dX5_take_84 rfl (by decide) rfl ?_
  try simp only [List.set]
  refine g_aload_n (pc' := 87) dX5_take_86 rfl rfl ?_
  refine g_aload_n (pc' := 88) dX5_take_87 rfl rfl ?_
  refine g_iload (pc' := 90) dX5_take_88 rfl rfl ?_
  refine g_iload_n (pc' := 91) dX5_take_90 rfl rfl ?_
  refine g_iload_n (pc' := 92) dX5_take_91 rfl rfl ?_
  refine g_invV (pc' := 95) (cx_joined_61 hok _ _) dX5_take_92 rfl rfl ck_6 rfl ml_X5_85 im_X5_joined sl_X5_joined in_X5 co_X5_joined pd_X5_joined rfl (by omega) (by decide) ⟨by decide, by decide⟩ (Nat.le_of_ble_eq_true rfl) ?_
  rintro _ _ ⟨z, rfl, hz⟩ -
  rcases hz with ⟨hz, rfl⟩ | ⟨hz, rfl⟩
  ·
    refine g_invV (pc' := 98) (cx_push hok (by exact hs) (a := a) (by omega) (by exact wI_same _ _ _ _) _) dX5_take_95 rfl rfl ck_6 rfl ml_X5_77 im_X5_push sl_X5_push in_X5 co_X5_push pd_X5_push rfl (by omega) (by decide) ⟨by decide, by decide⟩ (Nat.le_of_ble_eq_true rfl) ?_
    rintro _ _ ⟨rfl, rfl⟩ -
    refine g_vret dX5_take_98 rfl (by decide) (by decide) ?_
    have hz2 : wkd 61 (h.1 (43, 0) a) (h.1 (43, 0) (a + 1)) = some z := hz
    rw [hz2]
    exact ⟨rfl, ((((Rk.rf a h).t).t).p (Nat.le_refl a)).t, RV_push ((wI_f (by decide)).trans ((wI_f (by decide)).trans hT.2))⟩
  ·
    refine g_invV (pc' := 98) (cx_push hok (by exact hs) (a := a) (by omega) (by exact (wI_f (by decide)).trans (wI_same _ _ _ _)) _) dX5_take_95 rfl rfl ck_6 rfl ml_X5_77 im_X5_push sl_X5_push in_X5 co_X5_push pd_X5_push rfl (by omega) (by decide) ⟨by decide, by decide⟩ (Nat.le_of_ble_eq_true rfl) ?_
    rintro _ _ ⟨rfl, rfl⟩ -
    refine g_vret dX5_take_98 rfl (by decide) (by decide) ?_
    have hz2 : wkd 61 (h.1 (43, 0) a) (h.1 (43, 0) (a + 1)) = none := hz
    rw [hz2]
    exact ⟨rfl, (((((Rk.rf a h).t).t).t).p (Nat.le_refl a)).t, RV_none (by rw [wI_same]; decide)⟩
