/-- only the reckoning's own cells, from place a on, may have changed -/
def Wk (a : Nat) (h h' : Hp) : Prop := h'.2 = h.2 ∧ (∀ b, b ≠ (157, 0) → b ≠ (158, 0) → h'.1 b = h.1 b) ∧ ∀ i, i < a → h'.1 (157, 0) i = h.1 (157, 0) i ∧ h'.1 (158, 0) i = h.1 (158, 0) i
theorem Wk.rf (a : Nat) (h : Hp) : Wk a h h := ⟨rfl, fun _ _ _ => rfl, fun _ _ => ⟨rfl, rfl⟩⟩
theorem Wk.tr {a : Nat} {h1 h2 h3 : Hp} (x : Wk a h1 h2) (y : Wk a h2 h3) : Wk a h1 h3 := ⟨y.1.trans x.1, fun b p q => (y.2.1 b p q).trans (x.2.1 b p q), fun i hi => ⟨(y.2.2 i hi).1.trans (x.2.2 i hi).1, (y.2.2 i hi).2.trans (x.2.2 i hi).2⟩⟩
theorem Wk.le {a b : Nat} {h h' : Hp} (x : Wk b h h') (q : a ≤ b) : Wk a h h' := ⟨x.1, x.2.1, fun i hi => x.2.2 i (by omega)⟩
theorem Wk.w7 {a i : Nat} {h h' : Hp} {x : Int32} (k : Wk a h h') (hi : a ≤ i) : Wk a h (wI h' (157, 0) i x) := ⟨k.1, fun b p q => (wI_off h' (157, 0) i x b p).trans (k.2.1 b p q), fun j hj => ⟨by
  rw [wI_f (by omega)]
  exact (k.2.2 j hj).1, by
  rw [wI_off h' (157, 0) i x (158, 0) (by decide)]
  exact (k.2.2 j hj).2⟩⟩
theorem Wk.w8 {a i : Nat} {h h' : Hp} {x : Int32} (k : Wk a h h') (hi : a ≤ i) : Wk a h (wI h' (158, 0) i x) := ⟨k.1, fun b p q => (wI_off h' (158, 0) i x b q).trans (k.2.1 b p q), fun j hj => ⟨by
  rw [wI_off h' (158, 0) i x (157, 0) (by decide)]
  exact (k.2.2 j hj).1, by
  rw [wI_f (by omega)]
  exact (k.2.2 j hj).2⟩⟩
theorem Wk.mk {a : Nat} {h h' : Hp} (k : Wk a h h') : Mk h h' := ⟨k.1, fun b _ q => k.2.1 b (fun z => by rw [z] at q; exact absurd q (by decide)) (fun z => by rw [z] at q; exact absurd q (by decide))⟩
theorem Wk.mo {a : Nat} {h h' : Hp} (k : Wk a h h') : mo h' = mo h := by
  funext s i
  rcases kS_c s with hm | hm | hm
  · rw [mo_0 hm, mo_0 hm]
  · have := kS_1 hm
    subst this
    cases hc : scr i with
    | true => rw [mo_1s hc, mo_1s hc]
    | false => rw [mo_1 hc, mo_1 hc, k.2.1 (1, 0) (by decide) (by decide)]
  · have a1 : ((s, 0) : Ad) ≠ (157, 0) := fun z => by
      have e : s = 157 := congrArg Prod.fst z
      rw [e] at hm
      exact absurd hm (by decide)
    have a2 : ((s, 0) : Ad) ≠ (158, 0) := fun z => by
      have e : s = 158 := congrArg Prod.fst z
      rw [e] at hm
      exact absurd hm (by decide)
    rw [mo_2 hm, mo_2 hm, k.2.1 (s, 0) a1 a2]
theorem Wk.as {a : Nat} {h h' : Hp} (k : Wk a h h') {x f : Nat} {t l : Int32} (q : As h x t f l) : As h' x t f l := by
  have e := k.2.1 (1, 0) (by decide) (by decide)
  unfold As at *
  rw [e]
  exact q
/-- what stands at a place: a value, or refused -/
def Vl (h : Hp) (a : Nat) (v : Option Int32) : Prop := match v with
  | some x => h.1 (158, 0) a = 0 ∧ h.1 (157, 0) a = x
  | none => h.1 (158, 0) a = 1
theorem Vl_n {h : Hp} {a : Nat} {v : Option Int32} (q : Vl h a v) (z : ¬ h.1 (158, 0) a = 0) : v = none := by
  rcases v with _ | x
  · rfl
  · exact absurd q.1 z
theorem Vl_s {h : Hp} {a : Nat} {v : Option Int32} (q : Vl h a v) (z : h.1 (158, 0) a = 0) : v = some (h.1 (157, 0) a) := by
  rcases v with _ | x
  · have q' : h.1 (158, 0) a = 1 := q
    rw [z] at q'
    exact absurd q' (by decide)
  · exact congrArg some q.2.symm
theorem Vl.wk {h h' : Hp} {a i : Nat} {v : Option Int32} (q : Vl h i v) (k : Wk a h h') (hi : i < a) : Vl h' i v := by
  rcases v with _ | x
  · exact (k.2.2 i hi).2.trans q
  · exact ⟨(k.2.2 i hi).2.trans q.1, (k.2.2 i hi).1.trans q.2⟩
theorem Vl_b {h : Hp} {a : Nat} {v : Option Int32} (q : Vl h a v) : vp_nar .boolean (h.1 (158, 0) a) = h.1 (158, 0) a := by
  rcases v with _ | x
  · have q' : h.1 (158, 0) a = 1 := q
    rw [q']
    rfl
  · rw [q.1]
    rfl
theorem Vl_two {h : Hp} {a : Nat} {b z : Int32} {v : Option Int32} (q : (b = 0 ∧ v = some z) ∨ (b = 1 ∧ v = none)) : Vl (wI (wI h (158, 0) a b) (157, 0) a z) a v := by
  rcases q with ⟨rfl, rfl⟩ | ⟨rfl, rfl⟩
  · exact ⟨by rw [wI_off _ _ _ _ (158, 0) (by decide), wI_at, if_pos ⟨rfl, rfl⟩], by rw [wI_at, if_pos ⟨rfl, rfl⟩]⟩
  · show (wI (wI h (158, 0) a 1) (157, 0) a z).1 (158, 0) a = 1
    rw [wI_off _ _ _ _ (158, 0) (by decide), wI_at, if_pos ⟨rfl, rfl⟩]
theorem Vl_cp {h : Hp} {a i : Nat} {v : Option Int32} (q : Vl h i v) : Vl (wI (wI h (157, 0) a (h.1 (157, 0) i)) (158, 0) a (vp_nar .boolean (h.1 (158, 0) i))) a v := by
  rw [Vl_b q]
  rcases v with _ | x
  · show (wI (wI h (157, 0) a _) (158, 0) a _).1 (158, 0) a = 1
    rw [wI_at, if_pos ⟨rfl, rfl⟩]
    exact q
  · refine ⟨?_, ?_⟩
    · rw [wI_at, if_pos ⟨rfl, rfl⟩]
      exact q.1
    · rw [wI_off _ _ _ _ (157, 0) (by decide), wI_at, if_pos ⟨rfl, rfl⟩]
      exact q.2
theorem nI_dec {n : Nat} : nI (n + 1) + Int32.ofInt (-1) = nI n := by
  rw [← nI_add, Int32.add_assoc]
  have e : nI 1 + Int32.ofInt (-1) = 0 := by decide
  rw [e, Int32.add_zero]
set_option maxRecDepth 4000 in
theorem cm_worked_43 {E : En} (hok : EOK E) {h : Hp} (x y : Int32) : Fn E m_X12_worked 0 [vI (nI 43), vI (x), vI (y)] h (vI ((wkd 43 x y).getD 0)) := by
  refine Call.enter hok (by decide) (Nat.le_of_ble_eq_true rfl) ?_
  show G E m_X12_worked 0 0 0 _ h 0 [some (vI (nI 43)), some (vI x), some (vI y)] [] h 0 0
  refine g_iload_n (pc' := 1) dX12_worked_0 rfl rfl ?_
  refine g_lookup (off := 67) (tgt := 68) dX12_worked_1 (by decide) (by decide) (by decide) ?_
  refine g_iload_n (pc' := 69) dX12_worked_68 rfl rfl ?_
  refine g_iload_n (pc' := 70) dX12_worked_69 rfl rfl ?_
  refine g_iadd (pc' := 71) dX12_worked_70 rfl ?_
  refine g_iret dX12_worked_71 rfl (by decide) (by decide) ?_
  exact ⟨rfl, rfl⟩
set_option maxRecDepth 4000 in
theorem cm_worked_45 {E : En} (hok : EOK E) {h : Hp} (x y : Int32) : Fn E m_X12_worked 0 [vI (nI 45), vI (x), vI (y)] h (vI ((wkd 45 x y).getD 0)) := by
  refine Call.enter hok (by decide) (Nat.le_of_ble_eq_true rfl) ?_
  show G E m_X12_worked 0 0 0 _ h 0 [some (vI (nI 45)), some (vI x), some (vI y)] [] h 0 0
  refine g_iload_n (pc' := 1) dX12_worked_0 rfl rfl ?_
  refine g_lookup (off := 71) (tgt := 72) dX12_worked_1 (by decide) (by decide) (by decide) ?_
  refine g_iload_n (pc' := 73) dX12_worked_72 rfl rfl ?_
  refine g_iload_n (pc' := 74) dX12_worked_73 rfl rfl ?_
  refine g_isub (pc' := 75) dX12_worked_74 rfl ?_
  refine g_iret dX12_worked_75 rfl (by decide) (by decide) ?_
  exact ⟨rfl, rfl⟩
set_option maxRecDepth 4000 in
theorem cm_worked_42 {E : En} (hok : EOK E) {h : Hp} (x y : Int32) : Fn E m_X12_worked 0 [vI (nI 42), vI (x), vI (y)] h (vI ((wkd 42 x y).getD 0)) := by
  refine Call.enter hok (by decide) (Nat.le_of_ble_eq_true rfl) ?_
  show G E m_X12_worked 0 0 0 _ h 0 [some (vI (nI 42)), some (vI x), some (vI y)] [] h 0 0
  refine g_iload_n (pc' := 1) dX12_worked_0 rfl rfl ?_
  refine g_lookup (off := 75) (tgt := 76) dX12_worked_1 (by decide) (by decide) (by decide) ?_
  refine g_iload_n (pc' := 77) dX12_worked_76 rfl rfl ?_
  refine g_iload_n (pc' := 78) dX12_worked_77 rfl rfl ?_
  refine g_imul (pc' := 79) dX12_worked_78 rfl ?_
  refine g_iret dX12_worked_79 rfl (by decide) (by decide) ?_
  exact ⟨rfl, rfl⟩
set_option maxRecDepth 4000 in
theorem cm_worked_47 {E : En} (hok : EOK E) {h : Hp} (x y : Int32) : Fn E m_X12_worked 0 [vI (nI 47), vI (x), vI (y)] h (vI ((wkd 47 x y).getD 0)) := by
  refine Call.enter hok (by decide) (Nat.le_of_ble_eq_true rfl) ?_
  show G E m_X12_worked 0 0 0 _ h 0 [some (vI (nI 47)), some (vI x), some (vI y)] [] h 0 0
  refine g_iload_n (pc' := 1) dX12_worked_0 rfl rfl ?_
  refine g_lookup (off := 79) (tgt := 80) dX12_worked_1 (by decide) (by decide) (by decide) ?_
  refine g_iload_n (pc' := 81) dX12_worked_80 rfl rfl ?_
  refine g_if_ne (tgt := 88) (pc' := 84) dX12_worked_81 rfl (by decide) (fun c81 => ?_) (fun c81 => ?_)
  ·
    refine g_iload_n (pc' := 89) dX12_worked_88 rfl rfl ?_
    refine g_iload_n (pc' := 90) dX12_worked_89 rfl rfl ?_
    refine g_idiv (pc' := 91) dX12_worked_90 rfl (by assumption) ?_
    refine g_iret dX12_worked_91 rfl (by decide) (by decide) ?_
    refine ⟨congrArg (fun z : Int32 => some (vI z)) (show _ = (if y = 0 then none else _).getD 0 from ?_), rfl⟩
    rw [if_neg c81]
    rfl
  ·
    refine g_iconstN (n := 0) (pc' := 85) dX12_worked_84 rfl ?_
    refine g_goto (tgt := 91) dX12_worked_85 (by decide) ?_
    refine g_iret dX12_worked_91 rfl (by decide) (by decide) ?_
    refine ⟨congrArg (fun z : Int32 => some (vI z)) (show _ = (if y = 0 then none else _).getD 0 from ?_), rfl⟩
    rw [if_pos c81]
    rfl
set_option maxRecDepth 4000 in
theorem cm_worked_37 {E : En} (hok : EOK E) {h : Hp} (x y : Int32) : Fn E m_X12_worked 0 [vI (nI 37), vI (x), vI (y)] h (vI ((wkd 37 x y).getD 0)) := by
  refine Call.enter hok (by decide) (Nat.le_of_ble_eq_true rfl) ?_
  show G E m_X12_worked 0 0 0 _ h 0 [some (vI (nI 37)), some (vI x), some (vI y)] [] h 0 0
  refine g_iload_n (pc' := 1) dX12_worked_0 rfl rfl ?_
  refine g_lookup (off := 91) (tgt := 92) dX12_worked_1 (by decide) (by decide) (by decide) ?_
  refine g_iload_n (pc' := 93) dX12_worked_92 rfl rfl ?_
  refine g_if_ne (tgt := 100) (pc' := 96) dX12_worked_93 rfl (by decide) (fun c93 => ?_) (fun c93 => ?_)
  ·
    refine g_iload_n (pc' := 101) dX12_worked_100 rfl rfl ?_
    refine g_iload_n (pc' := 102) dX12_worked_101 rfl rfl ?_
    refine g_irem (pc' := 103) dX12_worked_102 rfl (by assumption) ?_
    refine g_iret dX12_worked_103 rfl (by decide) (by decide) ?_
    refine ⟨congrArg (fun z : Int32 => some (vI z)) (show _ = (if y = 0 then none else _).getD 0 from ?_), rfl⟩
    rw [if_neg c93]
    rfl
  ·
    refine g_iconstN (n := 0) (pc' := 97) dX12_worked_96 rfl ?_
    refine g_goto (tgt := 103) dX12_worked_97 (by decide) ?_
    refine g_iret dX12_worked_103 rfl (by decide) (by decide) ?_
    refine ⟨congrArg (fun z : Int32 => some (vI z)) (show _ = (if y = 0 then none else _).getD 0 from ?_), rfl⟩
    rw [if_pos c93]
    rfl
set_option maxRecDepth 4000 in
theorem cm_worked_60 {E : En} (hok : EOK E) {h : Hp} (x y : Int32) : Fn E m_X12_worked 0 [vI (nI 60), vI (x), vI (y)] h (vI ((wkd 60 x y).getD 0)) := by
  refine Call.enter hok (by decide) (Nat.le_of_ble_eq_true rfl) ?_
  show G E m_X12_worked 0 0 0 _ h 0 [some (vI (nI 60)), some (vI x), some (vI y)] [] h 0 0
  refine g_iload_n (pc' := 1) dX12_worked_0 rfl rfl ?_
  refine g_lookup (off := 103) (tgt := 104) dX12_worked_1 (by decide) (by decide) (by decide) ?_
  refine g_iload_n (pc' := 105) dX12_worked_104 rfl rfl ?_
  refine g_iload_n (pc' := 106) dX12_worked_105 rfl rfl ?_
  refine g_icmp_ge (tgt := 113) (pc' := 109) dX12_worked_106 rfl (by decide) (fun c106 => ?_) (fun c106 => ?_)
  ·
    refine g_iconstN (n := 0) (pc' := 114) dX12_worked_113 rfl ?_
    refine g_iret dX12_worked_114 rfl (by decide) (by decide) ?_
    refine ⟨congrArg (fun z : Int32 => some (vI z)) (show _ = (if x < y then (1 : Int32) else 0) from ?_), rfl⟩
    rw [if_neg (Int32.not_lt.mpr c106)]
    rfl
  ·
    refine g_iconstN (n := 1) (pc' := 110) dX12_worked_109 rfl ?_
    refine g_goto (tgt := 114) dX12_worked_110 (by decide) ?_
    refine g_iret dX12_worked_114 rfl (by decide) (by decide) ?_
    refine ⟨congrArg (fun z : Int32 => some (vI z)) (show _ = (if x < y then (1 : Int32) else 0) from ?_), rfl⟩
    rw [if_pos (Int32.not_le.mp c106)]
    rfl
set_option maxRecDepth 4000 in
theorem cm_worked_62 {E : En} (hok : EOK E) {h : Hp} (x y : Int32) : Fn E m_X12_worked 0 [vI (nI 62), vI (x), vI (y)] h (vI ((wkd 62 x y).getD 0)) := by
  refine Call.enter hok (by decide) (Nat.le_of_ble_eq_true rfl) ?_
  show G E m_X12_worked 0 0 0 _ h 0 [some (vI (nI 62)), some (vI x), some (vI y)] [] h 0 0
  refine g_iload_n (pc' := 1) dX12_worked_0 rfl rfl ?_
  refine g_lookup (off := 114) (tgt := 115) dX12_worked_1 (by decide) (by decide) (by decide) ?_
  refine g_iload_n (pc' := 116) dX12_worked_115 rfl rfl ?_
  refine g_iload_n (pc' := 117) dX12_worked_116 rfl rfl ?_
  refine g_icmp_le (tgt := 124) (pc' := 120) dX12_worked_117 rfl (by decide) (fun c117 => ?_) (fun c117 => ?_)
  ·
    refine g_iconstN (n := 0) (pc' := 125) dX12_worked_124 rfl ?_
    refine g_iret dX12_worked_125 rfl (by decide) (by decide) ?_
    refine ⟨congrArg (fun z : Int32 => some (vI z)) (show _ = (if y < x then (1 : Int32) else 0) from ?_), rfl⟩
    rw [if_neg (Int32.not_lt.mpr c117)]
    rfl
  ·
    refine g_iconstN (n := 1) (pc' := 121) dX12_worked_120 rfl ?_
    refine g_goto (tgt := 125) dX12_worked_121 (by decide) ?_
    refine g_iret dX12_worked_125 rfl (by decide) (by decide) ?_
    refine ⟨congrArg (fun z : Int32 => some (vI z)) (show _ = (if y < x then (1 : Int32) else 0) from ?_), rfl⟩
    rw [if_pos (Int32.not_le.mp c117)]
    rfl
set_option maxRecDepth 4000 in
theorem cm_worked_61 {E : En} (hok : EOK E) {h : Hp} (x y : Int32) : Fn E m_X12_worked 0 [vI (nI 61), vI (x), vI (y)] h (vI ((wkd 61 x y).getD 0)) := by
  refine Call.enter hok (by decide) (Nat.le_of_ble_eq_true rfl) ?_
  show G E m_X12_worked 0 0 0 _ h 0 [some (vI (nI 61)), some (vI x), some (vI y)] [] h 0 0
  refine g_iload_n (pc' := 1) dX12_worked_0 rfl rfl ?_
  refine g_lookup (off := 125) (tgt := 126) dX12_worked_1 (by decide) (by decide) (by decide) ?_
  refine g_iload_n (pc' := 127) dX12_worked_126 rfl rfl ?_
  refine g_iload_n (pc' := 128) dX12_worked_127 rfl rfl ?_
  refine g_icmp_ne (tgt := 135) (pc' := 131) dX12_worked_128 rfl (by decide) (fun c128 => ?_) (fun c128 => ?_)
  ·
    refine g_iconstN (n := 0) (pc' := 136) dX12_worked_135 rfl ?_
    refine g_iret dX12_worked_136 rfl (by decide) (by decide) ?_
    refine ⟨congrArg (fun z : Int32 => some (vI z)) (show _ = (if x = y then (1 : Int32) else 0) from ?_), rfl⟩
    rw [if_neg c128]
    rfl
  ·
    refine g_iconstN (n := 1) (pc' := 132) dX12_worked_131 rfl ?_
    refine g_goto (tgt := 136) dX12_worked_132 (by decide) ?_
    refine g_iret dX12_worked_136 rfl (by decide) (by decide) ?_
    refine ⟨congrArg (fun z : Int32 => some (vI z)) (show _ = (if x = y then (1 : Int32) else 0) from ?_), rfl⟩
    rw [if_pos c128]
    rfl
set_option maxRecDepth 4000 in
theorem cm_does_43 {E : En} (hok : EOK E) {h : Hp} (hs : Shp h.2) {a : Nat} (ha : a + 1 < 240) {v1 v2 : Option Int32} (q1 : Vl h a v1) (q2 : Vl h (a + 1) v2) : Call E m_X12_does 1 0 0 [vR MO, vI (nI 43), vI (nI a)] h (fun r h' => r = none ∧ Wk a h h' ∧ Vl h' a (vBin 43 v1 v2)) := by
  refine Call.enter hok (by decide) (Nat.le_of_ble_eq_true rfl) ?_
  show G E m_X12_does 1 0 0 _ h 0 [some (vR MO), some (vI (nI 43)), some (vI (nI a)), none] [] h 0 0
  refine g_iload_n (pc' := 1) dX12_does_0 rfl rfl ?_
  refine g_iconstN (n := 1) (pc' := 2) dX12_does_1 rfl ?_
  refine g_iaddN (pc' := 3) dX12_does_2 rfl ?_
  refine g_istore_n (pc' := 4) dX12_does_3 rfl (by decide) rfl ?_
  try simp only [List.set]
  refine g_iload_n (pc' := 5) dX12_does_4 rfl rfl ?_
  refine g_bipushN (n := 38) (pc' := 7) dX12_does_5 rfl (by decide) ?_
  refine g_icmp_eqN (tgt := 16) (pc' := 10) dX12_does_7 rfl (by decide) (by decide) (by decide) (fun q => False.elim (by revert q; decide)) (fun _ => ?_)
  refine g_iload_n (pc' := 11) dX12_does_10 rfl rfl ?_
  refine g_bipushN (n := 124) (pc' := 13) dX12_does_11 rfl (by decide) ?_
  refine g_icmp_neN (tgt := 71) (pc' := 16) dX12_does_13 rfl (by decide) (by decide) (by decide) (fun _ => ?_) (fun q => False.elim (by revert q; decide))
  refine g_aload_n (pc' := 72) dX12_does_71 rfl rfl ?_
  refine g_getS (pc' := 75) (k := 58) (b := (158, 0)) dX12_does_72 rfl rfl ck_13 (by decide) fl_X12_123 rfl hs rfl ?_
  refine g_iload_n (pc' := 76) dX12_does_75 rfl rfl ?_
  refine g_aload_n (pc' := 77) dX12_does_76 rfl rfl ?_
  refine g_getS (pc' := 80) (k := 58) (b := (158, 0)) dX12_does_77 rfl rfl ck_13 (by decide) fl_X12_123 rfl hs rfl ?_
  refine g_iload_n (pc' := 81) dX12_does_80 rfl rfl ?_
  refine g_zaldN (pc' := 82) (v := _) dX12_does_81 rfl rfl (by decide) (by omega) (rfl) ?_
  refine g_if_ne (tgt := 115) (pc' := 85) dX12_does_82 rfl (by decide) (fun c82 => ?_) (fun c82 => ?_)
  ·
    refine g_iconstN (n := 1) (pc' := 116) dX12_does_115 rfl ?_
    refine g_goto (tgt := 120) dX12_does_116 (by decide) ?_
    refine g_zastN (pc' := 121) dX12_does_120 rfl rfl (by decide) (by omega) ?_
    refine g_aload_n (pc' := 122) dX12_does_121 rfl rfl ?_
    refine g_getS (pc' := 125) (k := 57) (b := (157, 0)) dX12_does_122 rfl rfl ck_13 (by decide) fl_X12_120 rfl hs rfl ?_
    refine g_iload_n (pc' := 126) dX12_does_125 rfl rfl ?_
    refine g_iload_n (pc' := 127) dX12_does_126 rfl rfl ?_
    refine g_aload_n (pc' := 128) dX12_does_127 rfl rfl ?_
    refine g_getS (pc' := 131) (k := 57) (b := (157, 0)) dX12_does_128 rfl rfl ck_13 (by decide) fl_X12_120 rfl hs rfl ?_
    refine g_iload_n (pc' := 132) dX12_does_131 rfl rfl ?_
    refine g_ialdN (pc' := 133) (v := _) dX12_does_132 rfl rfl (by decide) (by omega) (rfl) ?_
    refine g_aload_n (pc' := 134) dX12_does_133 rfl rfl ?_
    refine g_getS (pc' := 137) (k := 57) (b := (157, 0)) dX12_does_134 rfl rfl ck_13 (by decide) fl_X12_120 rfl hs rfl ?_
    refine g_iload_n (pc' := 138) dX12_does_137 rfl rfl ?_
    refine g_ialdN (pc' := 139) (v := _) dX12_does_138 rfl rfl (by decide) (by omega) (rfl) ?_
    refine g_invS (pc' := 142) (cm_worked_43 hok _ _) dX12_does_139 rfl ml_X12_403 st_X12_worked in_X12 co_X12_worked pd_X12_worked rfl (by omega) (by decide) ⟨by decide, by decide⟩ (Nat.le_of_ble_eq_true rfl) ?_
    rintro _ _ ⟨rfl, rfl⟩ -
    refine g_iastN (pc' := 143) dX12_does_142 rfl rfl (by decide) (by omega) ?_
    refine g_vret dX12_does_143 rfl (by decide) (by decide) ?_
    exact ⟨rfl, ((Wk.rf a h).w8 (Nat.le_refl a)).w7 (Nat.le_refl a), Vl_two (Or.inr ⟨rfl, by rw [Vl_n q1 c82]; rfl⟩)⟩
  ·
    refine g_aload_n (pc' := 86) dX12_does_85 rfl rfl ?_
    refine g_getS (pc' := 89) (k := 58) (b := (158, 0)) dX12_does_86 rfl rfl ck_13 (by decide) fl_X12_123 rfl hs rfl ?_
    refine g_iload_n (pc' := 90) dX12_does_89 rfl rfl ?_
    refine g_zaldN (pc' := 91) (v := _) dX12_does_90 rfl rfl (by decide) (by omega) (rfl) ?_
    refine g_if_ne (tgt := 115) (pc' := 94) dX12_does_91 rfl (by decide) (fun c91 => ?_) (fun c91 => ?_)
    ·
      refine g_iconstN (n := 1) (pc' := 116) dX12_does_115 rfl ?_
      refine g_goto (tgt := 120) dX12_does_116 (by decide) ?_
      refine g_zastN (pc' := 121) dX12_does_120 rfl rfl (by decide) (by omega) ?_
      refine g_aload_n (pc' := 122) dX12_does_121 rfl rfl ?_
      refine g_getS (pc' := 125) (k := 57) (b := (157, 0)) dX12_does_122 rfl rfl ck_13 (by decide) fl_X12_120 rfl hs rfl ?_
      refine g_iload_n (pc' := 126) dX12_does_125 rfl rfl ?_
      refine g_iload_n (pc' := 127) dX12_does_126 rfl rfl ?_
      refine g_aload_n (pc' := 128) dX12_does_127 rfl rfl ?_
      refine g_getS (pc' := 131) (k := 57) (b := (157, 0)) dX12_does_128 rfl rfl ck_13 (by decide) fl_X12_120 rfl hs rfl ?_
      refine g_iload_n (pc' := 132) dX12_does_131 rfl rfl ?_
      refine g_ialdN (pc' := 133) (v := _) dX12_does_132 rfl rfl (by decide) (by omega) (rfl) ?_
      refine g_aload_n (pc' := 134) dX12_does_133 rfl rfl ?_
      refine g_getS (pc' := 137) (k := 57) (b := (157, 0)) dX12_does_134 rfl rfl ck_13 (by decide) fl_X12_120 rfl hs rfl ?_
      refine g_iload_n (pc' := 138) dX12_does_137 rfl rfl ?_
      refine g_ialdN (pc' := 139) (v := _) dX12_does_138 rfl rfl (by decide) (by omega) (rfl) ?_
      refine g_invS (pc' := 142) (cm_worked_43 hok _ _) dX12_does_139 rfl ml_X12_403 st_X12_worked in_X12 co_X12_worked pd_X12_worked rfl (by omega) (by decide) ⟨by decide, by decide⟩ (Nat.le_of_ble_eq_true rfl) ?_
      rintro _ _ ⟨rfl, rfl⟩ -
      refine g_iastN (pc' := 143) dX12_does_142 rfl rfl (by decide) (by omega) ?_
      refine g_vret dX12_does_143 rfl (by decide) (by decide) ?_
      exact ⟨rfl, ((Wk.rf a h).w8 (Nat.le_refl a)).w7 (Nat.le_refl a), Vl_two (Or.inr ⟨rfl, by rw [Vl_n q2 c91, Vl_s q1 c82]; rfl⟩)⟩
    ·
      refine g_iload_n (pc' := 95) dX12_does_94 rfl rfl ?_
      refine g_bipushN (n := 47) (pc' := 97) dX12_does_95 rfl (by decide) ?_
      refine g_icmp_eqN (tgt := 106) (pc' := 100) dX12_does_97 rfl (by decide) (by decide) (by decide) (fun q => False.elim (by revert q; decide)) (fun _ => ?_)
      refine g_iload_n (pc' := 101) dX12_does_100 rfl rfl ?_
      refine g_bipushN (n := 37) (pc' := 103) dX12_does_101 rfl (by decide) ?_
      refine g_icmp_neN (tgt := 119) (pc' := 106) dX12_does_103 rfl (by decide) (by decide) (by decide) (fun _ => ?_) (fun q => False.elim (by revert q; decide))
      refine g_iconstN (n := 0) (pc' := 120) dX12_does_119 rfl ?_
      refine g_zastN (pc' := 121) dX12_does_120 rfl rfl (by decide) (by omega) ?_
      refine g_aload_n (pc' := 122) dX12_does_121 rfl rfl ?_
      refine g_getS (pc' := 125) (k := 57) (b := (157, 0)) dX12_does_122 rfl rfl ck_13 (by decide) fl_X12_120 rfl hs rfl ?_
      refine g_iload_n (pc' := 126) dX12_does_125 rfl rfl ?_
      refine g_iload_n (pc' := 127) dX12_does_126 rfl rfl ?_
      refine g_aload_n (pc' := 128) dX12_does_127 rfl rfl ?_
      refine g_getS (pc' := 131) (k := 57) (b := (157, 0)) dX12_does_128 rfl rfl ck_13 (by decide) fl_X12_120 rfl hs rfl ?_
      refine g_iload_n (pc' := 132) dX12_does_131 rfl rfl ?_
      refine g_ialdN (pc' := 133) (v := _) dX12_does_132 rfl rfl (by decide) (by omega) (rfl) ?_
      refine g_aload_n (pc' := 134) dX12_does_133 rfl rfl ?_
      refine g_getS (pc' := 137) (k := 57) (b := (157, 0)) dX12_does_134 rfl rfl ck_13 (by decide) fl_X12_120 rfl hs rfl ?_
      refine g_iload_n (pc' := 138) dX12_does_137 rfl rfl ?_
      refine g_ialdN (pc' := 139) (v := _) dX12_does_138 rfl rfl (by decide) (by omega) (rfl) ?_
      refine g_invS (pc' := 142) (cm_worked_43 hok _ _) dX12_does_139 rfl ml_X12_403 st_X12_worked in_X12 co_X12_worked pd_X12_worked rfl (by omega) (by decide) ⟨by decide, by decide⟩ (Nat.le_of_ble_eq_true rfl) ?_
      rintro _ _ ⟨rfl, rfl⟩ -
      refine g_iastN (pc' := 143) dX12_does_142 rfl rfl (by decide) (by omega) ?_
      refine g_vret dX12_does_143 rfl (by decide) (by decide) ?_
      exact ⟨rfl, ((Wk.rf a h).w8 (Nat.le_refl a)).w7 (Nat.le_refl a), Vl_two (Or.inl ⟨rfl, by rw [Vl_s q1 c82, Vl_s q2 c91]; rfl⟩)⟩
set_option maxRecDepth 4000 in
theorem cm_does_45 {E : En} (hok : EOK E) {h : Hp} (hs : Shp h.2) {a : Nat} (ha : a + 1 < 240) {v1 v2 : Option Int32} (q1 : Vl h a v1) (q2 : Vl h (a + 1) v2) : Call E m_X12_does 1 0 0 [vR MO, vI (nI 45), vI (nI a)] h (fun r h' => r = none ∧ Wk a h h' ∧ Vl h' a (vBin 45 v1 v2)) := by
  refine Call.enter hok (by decide) (Nat.le_of_ble_eq_true rfl) ?_
  show G E m_X12_does 1 0 0 _ h 0 [some (vR MO), some (vI (nI 45)), some (vI (nI a)), none] [] h 0 0
  refine g_iload_n (pc' := 1) dX12_does_0 rfl rfl ?_
  refine g_iconstN (n := 1) (pc' := 2) dX12_does_1 rfl ?_
  refine g_iaddN (pc' := 3) dX12_does_2 rfl ?_
  refine g_istore_n (pc' := 4) dX12_does_3 rfl (by decide) rfl ?_
  try simp only [List.set]
  refine g_iload_n (pc' := 5) dX12_does_4 rfl rfl ?_
  refine g_bipushN (n := 38) (pc' := 7) dX12_does_5 rfl (by decide) ?_
  refine g_icmp_eqN (tgt := 16) (pc' := 10) dX12_does_7 rfl (by decide) (by decide) (by decide) (fun q => False.elim (by revert q; decide)) (fun _ => ?_)
  refine g_iload_n (pc' := 11) dX12_does_10 rfl rfl ?_
  refine g_bipushN (n := 124) (pc' := 13) dX12_does_11 rfl (by decide) ?_
  refine g_icmp_neN (tgt := 71) (pc' := 16) dX12_does_13 rfl (by decide) (by decide) (by decide) (fun _ => ?_) (fun q => False.elim (by revert q; decide))
  refine g_aload_n (pc' := 72) dX12_does_71 rfl rfl ?_
  refine g_getS (pc' := 75) (k := 58) (b := (158, 0)) dX12_does_72 rfl rfl ck_13 (by decide) fl_X12_123 rfl hs rfl ?_
  refine g_iload_n (pc' := 76) dX12_does_75 rfl rfl ?_
  refine g_aload_n (pc' := 77) dX12_does_76 rfl rfl ?_
  refine g_getS (pc' := 80) (k := 58) (b := (158, 0)) dX12_does_77 rfl rfl ck_13 (by decide) fl_X12_123 rfl hs rfl ?_
  refine g_iload_n (pc' := 81) dX12_does_80 rfl rfl ?_
  refine g_zaldN (pc' := 82) (v := _) dX12_does_81 rfl rfl (by decide) (by omega) (rfl) ?_
  refine g_if_ne (tgt := 115) (pc' := 85) dX12_does_82 rfl (by decide) (fun c82 => ?_) (fun c82 => ?_)
  ·
    refine g_iconstN (n := 1) (pc' := 116) dX12_does_115 rfl ?_
    refine g_goto (tgt := 120) dX12_does_116 (by decide) ?_
    refine g_zastN (pc' := 121) dX12_does_120 rfl rfl (by decide) (by omega) ?_
    refine g_aload_n (pc' := 122) dX12_does_121 rfl rfl ?_
    refine g_getS (pc' := 125) (k := 57) (b := (157, 0)) dX12_does_122 rfl rfl ck_13 (by decide) fl_X12_120 rfl hs rfl ?_
    refine g_iload_n (pc' := 126) dX12_does_125 rfl rfl ?_
    refine g_iload_n (pc' := 127) dX12_does_126 rfl rfl ?_
    refine g_aload_n (pc' := 128) dX12_does_127 rfl rfl ?_
    refine g_getS (pc' := 131) (k := 57) (b := (157, 0)) dX12_does_128 rfl rfl ck_13 (by decide) fl_X12_120 rfl hs rfl ?_
    refine g_iload_n (pc' := 132) dX12_does_131 rfl rfl ?_
    refine g_ialdN (pc' := 133) (v := _) dX12_does_132 rfl rfl (by decide) (by omega) (rfl) ?_
    refine g_aload_n (pc' := 134) dX12_does_133 rfl rfl ?_
    refine g_getS (pc' := 137) (k := 57) (b := (157, 0)) dX12_does_134 rfl rfl ck_13 (by decide) fl_X12_120 rfl hs rfl ?_
    refine g_iload_n (pc' := 138) dX12_does_137 rfl rfl ?_
    refine g_ialdN (pc' := 139) (v := _) dX12_does_138 rfl rfl (by decide) (by omega) (rfl) ?_
    refine g_invS (pc' := 142) (cm_worked_45 hok _ _) dX12_does_139 rfl ml_X12_403 st_X12_worked in_X12 co_X12_worked pd_X12_worked rfl (by omega) (by decide) ⟨by decide, by decide⟩ (Nat.le_of_ble_eq_true rfl) ?_
    rintro _ _ ⟨rfl, rfl⟩ -
    refine g_iastN (pc' := 143) dX12_does_142 rfl rfl (by decide) (by omega) ?_
    refine g_vret dX12_does_143 rfl (by decide) (by decide) ?_
    exact ⟨rfl, ((Wk.rf a h).w8 (Nat.le_refl a)).w7 (Nat.le_refl a), Vl_two (Or.inr ⟨rfl, by rw [Vl_n q1 c82]; rfl⟩)⟩
  ·
    refine g_aload_n (pc' := 86) dX12_does_85 rfl rfl ?_
    refine g_getS (pc' := 89) (k := 58) (b := (158, 0)) dX12_does_86 rfl rfl ck_13 (by decide) fl_X12_123 rfl hs rfl ?_
    refine g_iload_n (pc' := 90) dX12_does_89 rfl rfl ?_
    refine g_zaldN (pc' := 91) (v := _) dX12_does_90 rfl rfl (by decide) (by omega) (rfl) ?_
    refine g_if_ne (tgt := 115) (pc' := 94) dX12_does_91 rfl (by decide) (fun c91 => ?_) (fun c91 => ?_)
    ·
      refine g_iconstN (n := 1) (pc' := 116) dX12_does_115 rfl ?_
      refine g_goto (tgt := 120) dX12_does_116 (by decide) ?_
      refine g_zastN (pc' := 121) dX12_does_120 rfl rfl (by decide) (by omega) ?_
      refine g_aload_n (pc' := 122) dX12_does_121 rfl rfl ?_
      refine g_getS (pc' := 125) (k := 57) (b := (157, 0)) dX12_does_122 rfl rfl ck_13 (by decide) fl_X12_120 rfl hs rfl ?_
      refine g_iload_n (pc' := 126) dX12_does_125 rfl rfl ?_
      refine g_iload_n (pc' := 127) dX12_does_126 rfl rfl ?_
      refine g_aload_n (pc' := 128) dX12_does_127 rfl rfl ?_
      refine g_getS (pc' := 131) (k := 57) (b := (157, 0)) dX12_does_128 rfl rfl ck_13 (by decide) fl_X12_120 rfl hs rfl ?_
      refine g_iload_n (pc' := 132) dX12_does_131 rfl rfl ?_
      refine g_ialdN (pc' := 133) (v := _) dX12_does_132 rfl rfl (by decide) (by omega) (rfl) ?_
      refine g_aload_n (pc' := 134) dX12_does_133 rfl rfl ?_
      refine g_getS (pc' := 137) (k := 57) (b := (157, 0)) dX12_does_134 rfl rfl ck_13 (by decide) fl_X12_120 rfl hs rfl ?_
      refine g_iload_n (pc' := 138) dX12_does_137 rfl rfl ?_
      refine g_ialdN (pc' := 139) (v := _) dX12_does_138 rfl rfl (by decide) (by omega) (rfl) ?_
      refine g_invS (pc' := 142) (cm_worked_45 hok _ _) dX12_does_139 rfl ml_X12_403 st_X12_worked in_X12 co_X12_worked pd_X12_worked rfl (by omega) (by decide) ⟨by decide, by decide⟩ (Nat.le_of_ble_eq_true rfl) ?_
      rintro _ _ ⟨rfl, rfl⟩ -
      refine g_iastN (pc' := 143) dX12_does_142 rfl rfl (by decide) (by omega) ?_
      refine g_vret dX12_does_143 rfl (by decide) (by decide) ?_
      exact ⟨rfl, ((Wk.rf a h).w8 (Nat.le_refl a)).w7 (Nat.le_refl a), Vl_two (Or.inr ⟨rfl, by rw [Vl_n q2 c91, Vl_s q1 c82]; rfl⟩)⟩
    ·
      refine g_iload_n (pc' := 95) dX12_does_94 rfl rfl ?_
      refine g_bipushN (n := 47) (pc' := 97) dX12_does_95 rfl (by decide) ?_
      refine g_icmp_eqN (tgt := 106) (pc' := 100) dX12_does_97 rfl (by decide) (by decide) (by decide) (fun q => False.elim (by revert q; decide)) (fun _ => ?_)
      refine g_iload_n (pc' := 101) dX12_does_100 rfl rfl ?_
      refine g_bipushN (n := 37) (pc' := 103) dX12_does_101 rfl (by decide) ?_
      refine g_icmp_neN (tgt := 119) (pc' := 106) dX12_does_103 rfl (by decide) (by decide) (by decide) (fun _ => ?_) (fun q => False.elim (by revert q; decide))
      refine g_iconstN (n := 0) (pc' := 120) dX12_does_119 rfl ?_
      refine g_zastN (pc' := 121) dX12_does_120 rfl rfl (by decide) (by omega) ?_
      refine g_aload_n (pc' := 122) dX12_does_121 rfl rfl ?_
      refine g_getS (pc' := 125) (k := 57) (b := (157, 0)) dX12_does_122 rfl rfl ck_13 (by decide) fl_X12_120 rfl hs rfl ?_
      refine g_iload_n (pc' := 126) dX12_does_125 rfl rfl ?_
      refine g_iload_n (pc' := 127) dX12_does_126 rfl rfl ?_
      refine g_aload_n (pc' := 128) dX12_does_127 rfl rfl ?_
      refine g_getS (pc' := 131) (k := 57) (b := (157, 0)) dX12_does_128 rfl rfl ck_13 (by decide) fl_X12_120 rfl hs rfl ?_
      refine g_iload_n (pc' := 132) dX12_does_131 rfl rfl ?_
      refine g_ialdN (pc' := 133) (v := _) dX12_does_132 rfl rfl (by decide) (by omega) (rfl) ?_
      refine g_aload_n (pc' := 134) dX12_does_133 rfl rfl ?_
      refine g_getS (pc' := 137) (k := 57) (b := (157, 0)) dX12_does_134 rfl rfl ck_13 (by decide) fl_X12_120 rfl hs rfl ?_
      refine g_iload_n (pc' := 138) dX12_does_137 rfl rfl ?_
      refine g_ialdN (pc' := 139) (v := _) dX12_does_138 rfl rfl (by decide) (by omega) (rfl) ?_
      refine g_invS (pc' := 142) (cm_worked_45 hok _ _) dX12_does_139 rfl ml_X12_403 st_X12_worked in_X12 co_X12_worked pd_X12_worked rfl (by omega) (by decide) ⟨by decide, by decide⟩ (Nat.le_of_ble_eq_true rfl) ?_
      rintro _ _ ⟨rfl, rfl⟩ -
      refine g_iastN (pc' := 143) dX12_does_142 rfl rfl (by decide) (by omega) ?_
      refine g_vret dX12_does_143 rfl (by decide) (by decide) ?_
      exact ⟨rfl, ((Wk.rf a h).w8 (Nat.le_refl a)).w7 (Nat.le_refl a), Vl_two (Or.inl ⟨rfl, by rw [Vl_s q1 c82, Vl_s q2 c91]; rfl⟩)⟩
set_option maxRecDepth 4000 in
theorem cm_does_42 {E : En} (hok : EOK E) {h : Hp} (hs : Shp h.2) {a : Nat} (ha : a + 1 < 240) {v1 v2 : Option Int32} (q1 : Vl h a v1) (q2 : Vl h (a + 1) v2) : Call E m_X12_does 1 0 0 [vR MO, vI (nI 42), vI (nI a)] h (fun r h' => r = none ∧ Wk a h h' ∧ Vl h' a (vBin 42 v1 v2)) := by
  refine Call.enter hok (by decide) (Nat.le_of_ble_eq_true rfl) ?_
  show G E m_X12_does 1 0 0 _ h 0 [some (vR MO), some (vI (nI 42)), some (vI (nI a)), none] [] h 0 0
  refine g_iload_n (pc' := 1) dX12_does_0 rfl rfl ?_
  refine g_iconstN (n := 1) (pc' := 2) dX12_does_1 rfl ?_
  refine g_iaddN (pc' := 3) dX12_does_2 rfl ?_
  refine g_istore_n (pc' := 4) dX12_does_3 rfl (by decide) rfl ?_
  try simp only [List.set]
  refine g_iload_n (pc' := 5) dX12_does_4 rfl rfl ?_
  refine g_bipushN (n := 38) (pc' := 7) dX12_does_5 rfl (by decide) ?_
  refine g_icmp_eqN (tgt := 16) (pc' := 10) dX12_does_7 rfl (by decide) (by decide) (by decide) (fun q => False.elim (by revert q; decide)) (fun _ => ?_)
  refine g_iload_n (pc' := 11) dX12_does_10 rfl rfl ?_
  refine g_bipushN (n := 124) (pc' := 13) dX12_does_11 rfl (by decide) ?_
  refine g_icmp_neN (tgt := 71) (pc' := 16) dX12_does_13 rfl (by decide) (by decide) (by decide) (fun _ => ?_) (fun q => False.elim (by revert q; decide))
  refine g_aload_n (pc' := 72) dX12_does_71 rfl rfl ?_
  refine g_getS (pc' := 75) (k := 58) (b := (158, 0)) dX12_does_72 rfl rfl ck_13 (by decide) fl_X12_123 rfl hs rfl ?_
  refine g_iload_n (pc' := 76) dX12_does_75 rfl rfl ?_
  refine g_aload_n (pc' := 77) dX12_does_76 rfl rfl ?_
  refine g_getS (pc' := 80) (k := 58) (b := (158, 0)) dX12_does_77 rfl rfl ck_13 (by decide) fl_X12_123 rfl hs rfl ?_
  refine g_iload_n (pc' := 81) dX12_does_80 rfl rfl ?_
  refine g_zaldN (pc' := 82) (v := _) dX12_does_81 rfl rfl (by decide) (by omega) (rfl) ?_
  refine g_if_ne (tgt := 115) (pc' := 85) dX12_does_82 rfl (by decide) (fun c82 => ?_) (fun c82 => ?_)
  ·
    refine g_iconstN (n := 1) (pc' := 116) dX12_does_115 rfl ?_
    refine g_goto (tgt := 120) dX12_does_116 (by decide) ?_
    refine g_zastN (pc' := 121) dX12_does_120 rfl rfl (by decide) (by omega) ?_
    refine g_aload_n (pc' := 122) dX12_does_121 rfl rfl ?_
    refine g_getS (pc' := 125) (k := 57) (b := (157, 0)) dX12_does_122 rfl rfl ck_13 (by decide) fl_X12_120 rfl hs rfl ?_
    refine g_iload_n (pc' := 126) dX12_does_125 rfl rfl ?_
    refine g_iload_n (pc' := 127) dX12_does_126 rfl rfl ?_
    refine g_aload_n (pc' := 128) dX12_does_127 rfl rfl ?_
    refine g_getS (pc' := 131) (k := 57) (b := (157, 0)) dX12_does_128 rfl rfl ck_13 (by decide) fl_X12_120 rfl hs rfl ?_
    refine g_iload_n (pc' := 132) dX12_does_131 rfl rfl ?_
    refine g_ialdN (pc' := 133) (v := _) dX12_does_132 rfl rfl (by decide) (by omega) (rfl) ?_
    refine g_aload_n (pc' := 134) dX12_does_133 rfl rfl ?_
    refine g_getS (pc' := 137) (k := 57) (b := (157, 0)) dX12_does_134 rfl rfl ck_13 (by decide) fl_X12_120 rfl hs rfl ?_
    refine g_iload_n (pc' := 138) dX12_does_137 rfl rfl ?_
    refine g_ialdN (pc' := 139) (v := _) dX12_does_138 rfl rfl (by decide) (by omega) (rfl) ?_
    refine g_invS (pc' := 142) (cm_worked_42 hok _ _) dX12_does_139 rfl ml_X12_403 st_X12_worked in_X12 co_X12_worked pd_X12_worked rfl (by omega) (by decide) ⟨by decide, by decide⟩ (Nat.le_of_ble_eq_true rfl) ?_
    rintro _ _ ⟨rfl, rfl⟩ -
    refine g_iastN (pc' := 143) dX12_does_142 rfl rfl (by decide) (by omega) ?_
    refine g_vret dX12_does_143 rfl (by decide) (by decide) ?_
    exact ⟨rfl, ((Wk.rf a h).w8 (Nat.le_refl a)).w7 (Nat.le_refl a), Vl_two (Or.inr ⟨rfl, by rw [Vl_n q1 c82]; rfl⟩)⟩
  ·
    refine g_aload_n (pc' := 86) dX12_does_85 rfl rfl ?_
    refine g_getS (pc' := 89) (k := 58) (b := (158, 0)) dX12_does_86 rfl rfl ck_13 (by decide) fl_X12_123 rfl hs rfl ?_
    refine g_iload_n (pc' := 90) dX12_does_89 rfl rfl ?_
    refine g_zaldN (pc' := 91) (v := _) dX12_does_90 rfl rfl (by decide) (by omega) (rfl) ?_
    refine g_if_ne (tgt := 115) (pc' := 94) dX12_does_91 rfl (by decide) (fun c91 => ?_) (fun c91 => ?_)
    ·
      refine g_iconstN (n := 1) (pc' := 116) dX12_does_115 rfl ?_
      refine g_goto (tgt := 120) dX12_does_116 (by decide) ?_
      refine g_zastN (pc' := 121) dX12_does_120 rfl rfl (by decide) (by omega) ?_
      refine g_aload_n (pc' := 122) dX12_does_121 rfl rfl ?_
      refine g_getS (pc' := 125) (k := 57) (b := (157, 0)) dX12_does_122 rfl rfl ck_13 (by decide) fl_X12_120 rfl hs rfl ?_
      refine g_iload_n (pc' := 126) dX12_does_125 rfl rfl ?_
      refine g_iload_n (pc' := 127) dX12_does_126 rfl rfl ?_
      refine g_aload_n (pc' := 128) dX12_does_127 rfl rfl ?_
      refine g_getS (pc' := 131) (k := 57) (b := (157, 0)) dX12_does_128 rfl rfl ck_13 (by decide) fl_X12_120 rfl hs rfl ?_
      refine g_iload_n (pc' := 132) dX12_does_131 rfl rfl ?_
      refine g_ialdN (pc' := 133) (v := _) dX12_does_132 rfl rfl (by decide) (by omega) (rfl) ?_
      refine g_aload_n (pc' := 134) dX12_does_133 rfl rfl ?_
      refine g_getS (pc' := 137) (k := 57) (b := (157, 0)) dX12_does_134 rfl rfl ck_13 (by decide) fl_X12_120 rfl hs rfl ?_
      refine g_iload_n (pc' := 138) dX12_does_137 rfl rfl ?_
      refine g_ialdN (pc' := 139) (v := _) dX12_does_138 rfl rfl (by decide) (by omega) (rfl) ?_
      refine g_invS (pc' := 142) (cm_worked_42 hok _ _) dX12_does_139 rfl ml_X12_403 st_X12_worked in_X12 co_X12_worked pd_X12_worked rfl (by omega) (by decide) ⟨by decide, by decide⟩ (Nat.le_of_ble_eq_true rfl) ?_
      rintro _ _ ⟨rfl, rfl⟩ -
      refine g_iastN (pc' := 143) dX12_does_142 rfl rfl (by decide) (by omega) ?_
      refine g_vret dX12_does_143 rfl (by decide) (by decide) ?_
      exact ⟨rfl, ((Wk.rf a h).w8 (Nat.le_refl a)).w7 (Nat.le_refl a), Vl_two (Or.inr ⟨rfl, by rw [Vl_n q2 c91, Vl_s q1 c82]; rfl⟩)⟩
    ·
      refine g_iload_n (pc' := 95) dX12_does_94 rfl rfl ?_
      refine g_bipushN (n := 47) (pc' := 97) dX12_does_95 rfl (by decide) ?_
      refine g_icmp_eqN (tgt := 106) (pc' := 100) dX12_does_97 rfl (by decide) (by decide) (by decide) (fun q => False.elim (by revert q; decide)) (fun _ => ?_)
      refine g_iload_n (pc' := 101) dX12_does_100 rfl rfl ?_
      refine g_bipushN (n := 37) (pc' := 103) dX12_does_101 rfl (by decide) ?_
      refine g_icmp_neN (tgt := 119) (pc' := 106) dX12_does_103 rfl (by decide) (by decide) (by decide) (fun _ => ?_) (fun q => False.elim (by revert q; decide))
      refine g_iconstN (n := 0) (pc' := 120) dX12_does_119 rfl ?_
      refine g_zastN (pc' := 121) dX12_does_120 rfl rfl (by decide) (by omega) ?_
      refine g_aload_n (pc' := 122) dX12_does_121 rfl rfl ?_
      refine g_getS (pc' := 125) (k := 57) (b := (157, 0)) dX12_does_122 rfl rfl ck_13 (by decide) fl_X12_120 rfl hs rfl ?_
      refine g_iload_n (pc' := 126) dX12_does_125 rfl rfl ?_
      refine g_iload_n (pc' := 127) dX12_does_126 rfl rfl ?_
      refine g_aload_n (pc' := 128) dX12_does_127 rfl rfl ?_
      refine g_getS (pc' := 131) (k := 57) (b := (157, 0)) dX12_does_128 rfl rfl ck_13 (by decide) fl_X12_120 rfl hs rfl ?_
      refine g_iload_n (pc' := 132) dX12_does_131 rfl rfl ?_
      refine g_ialdN (pc' := 133) (v := _) dX12_does_132 rfl rfl (by decide) (by omega) (rfl) ?_
      refine g_aload_n (pc' := 134) dX12_does_133 rfl rfl ?_
      refine g_getS (pc' := 137) (k := 57) (b := (157, 0)) dX12_does_134 rfl rfl ck_13 (by decide) fl_X12_120 rfl hs rfl ?_
      refine g_iload_n (pc' := 138) dX12_does_137 rfl rfl ?_
      refine g_ialdN (pc' := 139) (v := _) dX12_does_138 rfl rfl (by decide) (by omega) (rfl) ?_
      refine g_invS (pc' := 142) (cm_worked_42 hok _ _) dX12_does_139 rfl ml_X12_403 st_X12_worked in_X12 co_X12_worked pd_X12_worked rfl (by omega) (by decide) ⟨by decide, by decide⟩ (Nat.le_of_ble_eq_true rfl) ?_
      rintro _ _ ⟨rfl, rfl⟩ -
      refine g_iastN (pc' := 143) dX12_does_142 rfl rfl (by decide) (by omega) ?_
      refine g_vret dX12_does_143 rfl (by decide) (by decide) ?_
      exact ⟨rfl, ((Wk.rf a h).w8 (Nat.le_refl a)).w7 (Nat.le_refl a), Vl_two (Or.inl ⟨rfl, by rw [Vl_s q1 c82, Vl_s q2 c91]; rfl⟩)⟩
set_option maxRecDepth 4000 in
theorem cm_does_47 {E : En} (hok : EOK E) {h : Hp} (hs : Shp h.2) {a : Nat} (ha : a + 1 < 240) {v1 v2 : Option Int32} (q1 : Vl h a v1) (q2 : Vl h (a + 1) v2) : Call E m_X12_does 1 0 0 [vR MO, vI (nI 47), vI (nI a)] h (fun r h' => r = none ∧ Wk a h h' ∧ Vl h' a (vBin 47 v1 v2)) := by
  refine Call.enter hok (by decide) (Nat.le_of_ble_eq_true rfl) ?_
  show G E m_X12_does 1 0 0 _ h 0 [some (vR MO), some (vI (nI 47)), some (vI (nI a)), none] [] h 0 0
  refine g_iload_n (pc' := 1) dX12_does_0 rfl rfl ?_
  refine g_iconstN (n := 1) (pc' := 2) dX12_does_1 rfl ?_
  refine g_iaddN (pc' := 3) dX12_does_2 rfl ?_
  refine g_istore_n (pc' := 4) dX12_does_3 rfl (by decide) rfl ?_
  try simp only [List.set]
  refine g_iload_n (pc' := 5) dX12_does_4 rfl rfl ?_
  refine g_bipushN (n := 38) (pc' := 7) dX12_does_5 rfl (by decide) ?_
  refine g_icmp_eqN (tgt := 16) (pc' := 10) dX12_does_7 rfl (by decide) (by decide) (by decide) (fun q => False.elim (by revert q; decide)) (fun _ => ?_)
  refine g_iload_n (pc' := 11) dX12_does_10 rfl rfl ?_
  refine g_bipushN (n := 124) (pc' := 13) dX12_does_11 rfl (by decide) ?_
  refine g_icmp_neN (tgt := 71) (pc' := 16) dX12_does_13 rfl (by decide) (by decide) (by decide) (fun _ => ?_) (fun q => False.elim (by revert q; decide))
  refine g_aload_n (pc' := 72) dX12_does_71 rfl rfl ?_
  refine g_getS (pc' := 75) (k := 58) (b := (158, 0)) dX12_does_72 rfl rfl ck_13 (by decide) fl_X12_123 rfl hs rfl ?_
  refine g_iload_n (pc' := 76) dX12_does_75 rfl rfl ?_
  refine g_aload_n (pc' := 77) dX12_does_76 rfl rfl ?_
  refine g_getS (pc' := 80) (k := 58) (b := (158, 0)) dX12_does_77 rfl rfl ck_13 (by decide) fl_X12_123 rfl hs rfl ?_
  refine g_iload_n (pc' := 81) dX12_does_80 rfl rfl ?_
  refine g_zaldN (pc' := 82) (v := _) dX12_does_81 rfl rfl (by decide) (by omega) (rfl) ?_
  refine g_if_ne (tgt := 115) (pc' := 85) dX12_does_82 rfl (by decide) (fun c82 => ?_) (fun c82 => ?_)
  ·
    refine g_iconstN (n := 1) (pc' := 116) dX12_does_115 rfl ?_
    refine g_goto (tgt := 120) dX12_does_116 (by decide) ?_
    refine g_zastN (pc' := 121) dX12_does_120 rfl rfl (by decide) (by omega) ?_
    refine g_aload_n (pc' := 122) dX12_does_121 rfl rfl ?_
    refine g_getS (pc' := 125) (k := 57) (b := (157, 0)) dX12_does_122 rfl rfl ck_13 (by decide) fl_X12_120 rfl hs rfl ?_
    refine g_iload_n (pc' := 126) dX12_does_125 rfl rfl ?_
    refine g_iload_n (pc' := 127) dX12_does_126 rfl rfl ?_
    refine g_aload_n (pc' := 128) dX12_does_127 rfl rfl ?_
    refine g_getS (pc' := 131) (k := 57) (b := (157, 0)) dX12_does_128 rfl rfl ck_13 (by decide) fl_X12_120 rfl hs rfl ?_
    refine g_iload_n (pc' := 132) dX12_does_131 rfl rfl ?_
    refine g_ialdN (pc' := 133) (v := _) dX12_does_132 rfl rfl (by decide) (by omega) (rfl) ?_
    refine g_aload_n (pc' := 134) dX12_does_133 rfl rfl ?_
    refine g_getS (pc' := 137) (k := 57) (b := (157, 0)) dX12_does_134 rfl rfl ck_13 (by decide) fl_X12_120 rfl hs rfl ?_
    refine g_iload_n (pc' := 138) dX12_does_137 rfl rfl ?_
    refine g_ialdN (pc' := 139) (v := _) dX12_does_138 rfl rfl (by decide) (by omega) (rfl) ?_
    refine g_invS (pc' := 142) (cm_worked_47 hok _ _) dX12_does_139 rfl ml_X12_403 st_X12_worked in_X12 co_X12_worked pd_X12_worked rfl (by omega) (by decide) ⟨by decide, by decide⟩ (Nat.le_of_ble_eq_true rfl) ?_
    rintro _ _ ⟨rfl, rfl⟩ -
    refine g_iastN (pc' := 143) dX12_does_142 rfl rfl (by decide) (by omega) ?_
    refine g_vret dX12_does_143 rfl (by decide) (by decide) ?_
    exact ⟨rfl, ((Wk.rf a h).w8 (Nat.le_refl a)).w7 (Nat.le_refl a), Vl_two (Or.inr ⟨rfl, by rw [Vl_n q1 c82]; rfl⟩)⟩
  ·
    refine g_aload_n (pc' := 86) dX12_does_85 rfl rfl ?_
    refine g_getS (pc' := 89) (k := 58) (b := (158, 0)) dX12_does_86 rfl rfl ck_13 (by decide) fl_X12_123 rfl hs rfl ?_
    refine g_iload_n (pc' := 90) dX12_does_89 rfl rfl ?_
    refine g_zaldN (pc' := 91) (v := _) dX12_does_90 rfl rfl (by decide) (by omega) (rfl) ?_
    refine g_if_ne (tgt := 115) (pc' := 94) dX12_does_91 rfl (by decide) (fun c91 => ?_) (fun c91 => ?_)
    ·
      refine g_iconstN (n := 1) (pc' := 116) dX12_does_115 rfl ?_
      refine g_goto (tgt := 120) dX12_does_116 (by decide) ?_
      refine g_zastN (pc' := 121) dX12_does_120 rfl rfl (by decide) (by omega) ?_
      refine g_aload_n (pc' := 122) dX12_does_121 rfl rfl ?_
      refine g_getS (pc' := 125) (k := 57) (b := (157, 0)) dX12_does_122 rfl rfl ck_13 (by decide) fl_X12_120 rfl hs rfl ?_
      refine g_iload_n (pc' := 126) dX12_does_125 rfl rfl ?_
      refine g_iload_n (pc' := 127) dX12_does_126 rfl rfl ?_
      refine g_aload_n (pc' := 128) dX12_does_127 rfl rfl ?_
      refine g_getS (pc' := 131) (k := 57) (b := (157, 0)) dX12_does_128 rfl rfl ck_13 (by decide) fl_X12_120 rfl hs rfl ?_
      refine g_iload_n (pc' := 132) dX12_does_131 rfl rfl ?_
      refine g_ialdN (pc' := 133) (v := _) dX12_does_132 rfl rfl (by decide) (by omega) (rfl) ?_
      refine g_aload_n (pc' := 134) dX12_does_133 rfl rfl ?_
      refine g_getS (pc' := 137) (k := 57) (b := (157, 0)) dX12_does_134 rfl rfl ck_13 (by decide) fl_X12_120 rfl hs rfl ?_
      refine g_iload_n (pc' := 138) dX12_does_137 rfl rfl ?_
      refine g_ialdN (pc' := 139) (v := _) dX12_does_138 rfl rfl (by decide) (by omega) (rfl) ?_
      refine g_invS (pc' := 142) (cm_worked_47 hok _ _) dX12_does_139 rfl ml_X12_403 st_X12_worked in_X12 co_X12_worked pd_X12_worked rfl (by omega) (by decide) ⟨by decide, by decide⟩ (Nat.le_of_ble_eq_true rfl) ?_
      rintro _ _ ⟨rfl, rfl⟩ -
      refine g_iastN (pc' := 143) dX12_does_142 rfl rfl (by decide) (by omega) ?_
      refine g_vret dX12_does_143 rfl (by decide) (by decide) ?_
      exact ⟨rfl, ((Wk.rf a h).w8 (Nat.le_refl a)).w7 (Nat.le_refl a), Vl_two (Or.inr ⟨rfl, by rw [Vl_n q2 c91, Vl_s q1 c82]; rfl⟩)⟩
    ·
      refine g_iload_n (pc' := 95) dX12_does_94 rfl rfl ?_
      refine g_bipushN (n := 47) (pc' := 97) dX12_does_95 rfl (by decide) ?_
      refine g_icmp_eqN (tgt := 106) (pc' := 100) dX12_does_97 rfl (by decide) (by decide) (by decide) (fun _ => ?_) (fun q => False.elim (by revert q; decide))
      refine g_aload_n (pc' := 107) dX12_does_106 rfl rfl ?_
      refine g_getS (pc' := 110) (k := 57) (b := (157, 0)) dX12_does_107 rfl rfl ck_13 (by decide) fl_X12_120 rfl hs rfl ?_
      refine g_iload_n (pc' := 111) dX12_does_110 rfl rfl ?_
      refine g_ialdN (pc' := 112) (v := _) dX12_does_111 rfl rfl (by decide) (by omega) (rfl) ?_
      refine g_if_ne (tgt := 119) (pc' := 115) dX12_does_112 rfl (by decide) (fun c112 => ?_) (fun c112 => ?_)
      ·
        refine g_iconstN (n := 0) (pc' := 120) dX12_does_119 rfl ?_
        refine g_zastN (pc' := 121) dX12_does_120 rfl rfl (by decide) (by omega) ?_
        refine g_aload_n (pc' := 122) dX12_does_121 rfl rfl ?_
        refine g_getS (pc' := 125) (k := 57) (b := (157, 0)) dX12_does_122 rfl rfl ck_13 (by decide) fl_X12_120 rfl hs rfl ?_
        refine g_iload_n (pc' := 126) dX12_does_125 rfl rfl ?_
        refine g_iload_n (pc' := 127) dX12_does_126 rfl rfl ?_
        refine g_aload_n (pc' := 128) dX12_does_127 rfl rfl ?_
        refine g_getS (pc' := 131) (k := 57) (b := (157, 0)) dX12_does_128 rfl rfl ck_13 (by decide) fl_X12_120 rfl hs rfl ?_
        refine g_iload_n (pc' := 132) dX12_does_131 rfl rfl ?_
        refine g_ialdN (pc' := 133) (v := _) dX12_does_132 rfl rfl (by decide) (by omega) (rfl) ?_
        refine g_aload_n (pc' := 134) dX12_does_133 rfl rfl ?_
        refine g_getS (pc' := 137) (k := 57) (b := (157, 0)) dX12_does_134 rfl rfl ck_13 (by decide) fl_X12_120 rfl hs rfl ?_
        refine g_iload_n (pc' := 138) dX12_does_137 rfl rfl ?_
        refine g_ialdN (pc' := 139) (v := _) dX12_does_138 rfl rfl (by decide) (by omega) (rfl) ?_
        refine g_invS (pc' := 142) (cm_worked_47 hok _ _) dX12_does_139 rfl ml_X12_403 st_X12_worked in_X12 co_X12_worked pd_X12_worked rfl (by omega) (by decide) ⟨by decide, by decide⟩ (Nat.le_of_ble_eq_true rfl) ?_
        rintro _ _ ⟨rfl, rfl⟩ -
        refine g_iastN (pc' := 143) dX12_does_142 rfl rfl (by decide) (by omega) ?_
        refine g_vret dX12_does_143 rfl (by decide) (by decide) ?_
        exact ⟨rfl, ((Wk.rf a h).w8 (Nat.le_refl a)).w7 (Nat.le_refl a), Vl_two (Or.inl ⟨rfl, by rw [Vl_s q1 c82, Vl_s q2 c91]; show (if h.1 (157, 0) (a + 1) = 0 then none else some _) = _; rw [if_neg c112]; show _ = some ((if h.1 (157, 0) (a + 1) = 0 then none else some _).getD 0); rw [if_neg c112]; rfl⟩)⟩
      ·
        refine g_iconstN (n := 1) (pc' := 116) dX12_does_115 rfl ?_
        refine g_goto (tgt := 120) dX12_does_116 (by decide) ?_
        refine g_zastN (pc' := 121) dX12_does_120 rfl rfl (by decide) (by omega) ?_
        refine g_aload_n (pc' := 122) dX12_does_121 rfl rfl ?_
        refine g_getS (pc' := 125) (k := 57) (b := (157, 0)) dX12_does_122 rfl rfl ck_13 (by decide) fl_X12_120 rfl hs rfl ?_
        refine g_iload_n (pc' := 126) dX12_does_125 rfl rfl ?_
        refine g_iload_n (pc' := 127) dX12_does_126 rfl rfl ?_
        refine g_aload_n (pc' := 128) dX12_does_127 rfl rfl ?_
        refine g_getS (pc' := 131) (k := 57) (b := (157, 0)) dX12_does_128 rfl rfl ck_13 (by decide) fl_X12_120 rfl hs rfl ?_
        refine g_iload_n (pc' := 132) dX12_does_131 rfl rfl ?_
        refine g_ialdN (pc' := 133) (v := _) dX12_does_132 rfl rfl (by decide) (by omega) (rfl) ?_
        refine g_aload_n (pc' := 134) dX12_does_133 rfl rfl ?_
        refine g_getS (pc' := 137) (k := 57) (b := (157, 0)) dX12_does_134 rfl rfl ck_13 (by decide) fl_X12_120 rfl hs rfl ?_
        refine g_iload_n (pc' := 138) dX12_does_137 rfl rfl ?_
        refine g_ialdN (pc' := 139) (v := _) dX12_does_138 rfl rfl (by decide) (by omega) (rfl) ?_
        refine g_invS (pc' := 142) (cm_worked_47 hok _ _) dX12_does_139 rfl ml_X12_403 st_X12_worked in_X12 co_X12_worked pd_X12_worked rfl (by omega) (by decide) ⟨by decide, by decide⟩ (Nat.le_of_ble_eq_true rfl) ?_
        rintro _ _ ⟨rfl, rfl⟩ -
        refine g_iastN (pc' := 143) dX12_does_142 rfl rfl (by decide) (by omega) ?_
        refine g_vret dX12_does_143 rfl (by decide) (by decide) ?_
        exact ⟨rfl, ((Wk.rf a h).w8 (Nat.le_refl a)).w7 (Nat.le_refl a), Vl_two (Or.inr ⟨rfl, by rw [Vl_s q1 c82, Vl_s q2 c91]; show (if h.1 (157, 0) (a + 1) = 0 then none else some _) = _; rw [if_pos c112]⟩)⟩
set_option maxRecDepth 4000 in
theorem cm_does_37 {E : En} (hok : EOK E) {h : Hp} (hs : Shp h.2) {a : Nat} (ha : a + 1 < 240) {v1 v2 : Option Int32} (q1 : Vl h a v1) (q2 : Vl h (a + 1) v2) : Call E m_X12_does 1 0 0 [vR MO, vI (nI 37), vI (nI a)] h (fun r h' => r = none ∧ Wk a h h' ∧ Vl h' a (vBin 37 v1 v2)) := by
  refine Call.enter hok (by decide) (Nat.le_of_ble_eq_true rfl) ?_
  show G E m_X12_does 1 0 0 _ h 0 [some (vR MO), some (vI (nI 37)), some (vI (nI a)), none] [] h 0 0
  refine g_iload_n (pc' := 1) dX12_does_0 rfl rfl ?_
  refine g_iconstN (n := 1) (pc' := 2) dX12_does_1 rfl ?_
  refine g_iaddN (pc' := 3) dX12_does_2 rfl ?_
  refine g_istore_n (pc' := 4) dX12_does_3 rfl (by decide) rfl ?_
  try simp only [List.set]
  refine g_iload_n (pc' := 5) dX12_does_4 rfl rfl ?_
  refine g_bipushN (n := 38) (pc' := 7) dX12_does_5 rfl (by decide) ?_
  refine g_icmp_eqN (tgt := 16) (pc' := 10) dX12_does_7 rfl (by decide) (by decide) (by decide) (fun q => False.elim (by revert q; decide)) (fun _ => ?_)
  refine g_iload_n (pc' := 11) dX12_does_10 rfl rfl ?_
  refine g_bipushN (n := 124) (pc' := 13) dX12_does_11 rfl (by decide) ?_
  refine g_icmp_neN (tgt := 71) (pc' := 16) dX12_does_13 rfl (by decide) (by decide) (by decide) (fun _ => ?_) (fun q => False.elim (by revert q; decide))
  refine g_aload_n (pc' := 72) dX12_does_71 rfl rfl ?_
  refine g_getS (pc' := 75) (k := 58) (b := (158, 0)) dX12_does_72 rfl rfl ck_13 (by decide) fl_X12_123 rfl hs rfl ?_
  refine g_iload_n (pc' := 76) dX12_does_75 rfl rfl ?_
  refine g_aload_n (pc' := 77) dX12_does_76 rfl rfl ?_
  refine g_getS (pc' := 80) (k := 58) (b := (158, 0)) dX12_does_77 rfl rfl ck_13 (by decide) fl_X12_123 rfl hs rfl ?_
  refine g_iload_n (pc' := 81) dX12_does_80 rfl rfl ?_
  refine g_zaldN (pc' := 82) (v := _) dX12_does_81 rfl rfl (by decide) (by omega) (rfl) ?_
  refine g_if_ne (tgt := 115) (pc' := 85) dX12_does_82 rfl (by decide) (fun c82 => ?_) (fun c82 => ?_)
  ·
    refine g_iconstN (n := 1) (pc' := 116) dX12_does_115 rfl ?_
    refine g_goto (tgt := 120) dX12_does_116 (by decide) ?_
    refine g_zastN (pc' := 121) dX12_does_120 rfl rfl (by decide) (by omega) ?_
    refine g_aload_n (pc' := 122) dX12_does_121 rfl rfl ?_
    refine g_getS (pc' := 125) (k := 57) (b := (157, 0)) dX12_does_122 rfl rfl ck_13 (by decide) fl_X12_120 rfl hs rfl ?_
    refine g_iload_n (pc' := 126) dX12_does_125 rfl rfl ?_
    refine g_iload_n (pc' := 127) dX12_does_126 rfl rfl ?_
    refine g_aload_n (pc' := 128) dX12_does_127 rfl rfl ?_
    refine g_getS (pc' := 131) (k := 57) (b := (157, 0)) dX12_does_128 rfl rfl ck_13 (by decide) fl_X12_120 rfl hs rfl ?_
    refine g_iload_n (pc' := 132) dX12_does_131 rfl rfl ?_
    refine g_ialdN (pc' := 133) (v := _) dX12_does_132 rfl rfl (by decide) (by omega) (rfl) ?_
    refine g_aload_n (pc' := 134) dX12_does_133 rfl rfl ?_
    refine g_getS (pc' := 137) (k := 57) (b := (157, 0)) dX12_does_134 rfl rfl ck_13 (by decide) fl_X12_120 rfl hs rfl ?_
    refine g_iload_n (pc' := 138) dX12_does_137 rfl rfl ?_
    refine g_ialdN (pc' := 139) (v := _) dX12_does_138 rfl rfl (by decide) (by omega) (rfl) ?_
    refine g_invS (pc' := 142) (cm_worked_37 hok _ _) dX12_does_139 rfl ml_X12_403 st_X12_worked in_X12 co_X12_worked pd_X12_worked rfl (by omega) (by decide) ⟨by decide, by decide⟩ (Nat.le_of_ble_eq_true rfl) ?_
    rintro _ _ ⟨rfl, rfl⟩ -
    refine g_iastN (pc' := 143) dX12_does_142 rfl rfl (by decide) (by omega) ?_
    refine g_vret dX12_does_143 rfl (by decide) (by decide) ?_
    exact ⟨rfl, ((Wk.rf a h).w8 (Nat.le_refl a)).w7 (Nat.le_refl a), Vl_two (Or.inr ⟨rfl, by rw [Vl_n q1 c82]; rfl⟩)⟩
  ·
    refine g_aload_n (pc' := 86) dX12_does_85 rfl rfl ?_
    refine g_getS (pc' := 89) (k := 58) (b := (158, 0)) dX12_does_86 rfl rfl ck_13 (by decide) fl_X12_123 rfl hs rfl ?_
    refine g_iload_n (pc' := 90) dX12_does_89 rfl rfl ?_
    refine g_zaldN (pc' := 91) (v := _) dX12_does_90 rfl rfl (by decide) (by omega) (rfl) ?_
    refine g_if_ne (tgt := 115) (pc' := 94) dX12_does_91 rfl (by decide) (fun c91 => ?_) (fun c91 => ?_)
    ·
      refine g_iconstN (n := 1) (pc' := 116) dX12_does_115 rfl ?_
      refine g_goto (tgt := 120) dX12_does_116 (by decide) ?_
      refine g_zastN (pc' := 121) dX12_does_120 rfl rfl (by decide) (by omega) ?_
      refine g_aload_n (pc' := 122) dX12_does_121 rfl rfl ?_
      refine g_getS (pc' := 125) (k := 57) (b := (157, 0)) dX12_does_122 rfl rfl ck_13 (by decide) fl_X12_120 rfl hs rfl ?_
      refine g_iload_n (pc' := 126) dX12_does_125 rfl rfl ?_
      refine g_iload_n (pc' := 127) dX12_does_126 rfl rfl ?_
      refine g_aload_n (pc' := 128) dX12_does_127 rfl rfl ?_
      refine g_getS (pc' := 131) (k := 57) (b := (157, 0)) dX12_does_128 rfl rfl ck_13 (by decide) fl_X12_120 rfl hs rfl ?_
      refine g_iload_n (pc' := 132) dX12_does_131 rfl rfl ?_
      refine g_ialdN (pc' := 133) (v := _) dX12_does_132 rfl rfl (by decide) (by omega) (rfl) ?_
      refine g_aload_n (pc' := 134) dX12_does_133 rfl rfl ?_
      refine g_getS (pc' := 137) (k := 57) (b := (157, 0)) dX12_does_134 rfl rfl ck_13 (by decide) fl_X12_120 rfl hs rfl ?_
      refine g_iload_n (pc' := 138) dX12_does_137 rfl rfl ?_
      refine g_ialdN (pc' := 139) (v := _) dX12_does_138 rfl rfl (by decide) (by omega) (rfl) ?_
      refine g_invS (pc' := 142) (cm_worked_37 hok _ _) dX12_does_139 rfl ml_X12_403 st_X12_worked in_X12 co_X12_worked pd_X12_worked rfl (by omega) (by decide) ⟨by decide, by decide⟩ (Nat.le_of_ble_eq_true rfl) ?_
      rintro _ _ ⟨rfl, rfl⟩ -
      refine g_iastN (pc' := 143) dX12_does_142 rfl rfl (by decide) (by omega) ?_
      refine g_vret dX12_does_143 rfl (by decide) (by decide) ?_
      exact ⟨rfl, ((Wk.rf a h).w8 (Nat.le_refl a)).w7 (Nat.le_refl a), Vl_two (Or.inr ⟨rfl, by rw [Vl_n q2 c91, Vl_s q1 c82]; rfl⟩)⟩
    ·
      refine g_iload_n (pc' := 95) dX12_does_94 rfl rfl ?_
      refine g_bipushN (n := 47) (pc' := 97) dX12_does_95 rfl (by decide) ?_
      refine g_icmp_eqN (tgt := 106) (pc' := 100) dX12_does_97 rfl (by decide) (by decide) (by decide) (fun q => False.elim (by revert q; decide)) (fun _ => ?_)
      refine g_iload_n (pc' := 101) dX12_does_100 rfl rfl ?_
      refine g_bipushN (n := 37) (pc' := 103) dX12_does_101 rfl (by decide) ?_
      refine g_icmp_neN (tgt := 119) (pc' := 106) dX12_does_103 rfl (by decide) (by decide) (by decide) (fun q => False.elim (by revert q; decide)) (fun _ => ?_)
      refine g_aload_n (pc' := 107) dX12_does_106 rfl rfl ?_
      refine g_getS (pc' := 110) (k := 57) (b := (157, 0)) dX12_does_107 rfl rfl ck_13 (by decide) fl_X12_120 rfl hs rfl ?_
      refine g_iload_n (pc' := 111) dX12_does_110 rfl rfl ?_
      refine g_ialdN (pc' := 112) (v := _) dX12_does_111 rfl rfl (by decide) (by omega) (rfl) ?_
      refine g_if_ne (tgt := 119) (pc' := 115) dX12_does_112 rfl (by decide) (fun c112 => ?_) (fun c112 => ?_)
      ·
        refine g_iconstN (n := 0) (pc' := 120) dX12_does_119 rfl ?_
        refine g_zastN (pc' := 121) dX12_does_120 rfl rfl (by decide) (by omega) ?_
        refine g_aload_n (pc' := 122) dX12_does_121 rfl rfl ?_
        refine g_getS (pc' := 125) (k := 57) (b := (157, 0)) dX12_does_122 rfl rfl ck_13 (by decide) fl_X12_120 rfl hs rfl ?_
        refine g_iload_n (pc' := 126) dX12_does_125 rfl rfl ?_
        refine g_iload_n (pc' := 127) dX12_does_126 rfl rfl ?_
        refine g_aload_n (pc' := 128) dX12_does_127 rfl rfl ?_
        refine g_getS (pc' := 131) (k := 57) (b := (157, 0)) dX12_does_128 rfl rfl ck_13 (by decide) fl_X12_120 rfl hs rfl ?_
        refine g_iload_n (pc' := 132) dX12_does_131 rfl rfl ?_
        refine g_ialdN (pc' := 133) (v := _) dX12_does_132 rfl rfl (by decide) (by omega) (rfl) ?_
        refine g_aload_n (pc' := 134) dX12_does_133 rfl rfl ?_
        refine g_getS (pc' := 137) (k := 57) (b := (157, 0)) dX12_does_134 rfl rfl ck_13 (by decide) fl_X12_120 rfl hs rfl ?_
        refine g_iload_n (pc' := 138) dX12_does_137 rfl rfl ?_
        refine g_ialdN (pc' := 139) (v := _) dX12_does_138 rfl rfl (by decide) (by omega) (rfl) ?_
        refine g_invS (pc' := 142) (cm_worked_37 hok _ _) dX12_does_139 rfl ml_X12_403 st_X12_worked in_X12 co_X12_worked pd_X12_worked rfl (by omega) (by decide) ⟨by decide, by decide⟩ (Nat.le_of_ble_eq_true rfl) ?_
        rintro _ _ ⟨rfl, rfl⟩ -
        refine g_iastN (pc' := 143) dX12_does_142 rfl rfl (by decide) (by omega) ?_
        refine g_vret dX12_does_143 rfl (by decide) (by decide) ?_
        exact ⟨rfl, ((Wk.rf a h).w8 (Nat.le_refl a)).w7 (Nat.le_refl a), Vl_two (Or.inl ⟨rfl, by rw [Vl_s q1 c82, Vl_s q2 c91]; show (if h.1 (157, 0) (a + 1) = 0 then none else some _) = _; rw [if_neg c112]; show _ = some ((if h.1 (157, 0) (a + 1) = 0 then none else some _).getD 0); rw [if_neg c112]; rfl⟩)⟩
      ·
        refine g_iconstN (n := 1) (pc' := 116) dX12_does_115 rfl ?_
        refine g_goto (tgt := 120) dX12_does_116 (by decide) ?_
        refine g_zastN (pc' := 121) dX12_does_120 rfl rfl (by decide) (by omega) ?_
        refine g_aload_n (pc' := 122) dX12_does_121 rfl rfl ?_
        refine g_getS (pc' := 125) (k := 57) (b := (157, 0)) dX12_does_122 rfl rfl ck_13 (by decide) fl_X12_120 rfl hs rfl ?_
        refine g_iload_n (pc' := 126) dX12_does_125 rfl rfl ?_
        refine g_iload_n (pc' := 127) dX12_does_126 rfl rfl ?_
        refine g_aload_n (pc' := 128) dX12_does_127 rfl rfl ?_
        refine g_getS (pc' := 131) (k := 57) (b := (157, 0)) dX12_does_128 rfl rfl ck_13 (by decide) fl_X12_120 rfl hs rfl ?_
        refine g_iload_n (pc' := 132) dX12_does_131 rfl rfl ?_
        refine g_ialdN (pc' := 133) (v := _) dX12_does_132 rfl rfl (by decide) (by omega) (rfl) ?_
        refine g_aload_n (pc' := 134) dX12_does_133 rfl rfl ?_
        refine g_getS (pc' := 137) (k := 57) (b := (157, 0)) dX12_does_134 rfl rfl ck_13 (by decide) fl_X12_120 rfl hs rfl ?_
        refine g_iload_n (pc' := 138) dX12_does_137 rfl rfl ?_
        refine g_ialdN (pc' := 139) (v := _) dX12_does_138 rfl rfl (by decide) (by omega) (rfl) ?_
        refine g_invS (pc' := 142) (cm_worked_37 hok _ _) dX12_does_139 rfl ml_X12_403 st_X12_worked in_X12 co_X12_worked pd_X12_worked rfl (by omega) (by decide) ⟨by decide, by decide⟩ (Nat.le_of_ble_eq_true rfl) ?_
        rintro _ _ ⟨rfl, rfl⟩ -
        refine g_iastN (pc' := 143) dX12_does_142 rfl rfl (by decide) (by omega) ?_
        refine g_vret dX12_does_143 rfl (by decide) (by decide) ?_
        exact ⟨rfl, ((Wk.rf a h).w8 (Nat.le_refl a)).w7 (Nat.le_refl a), Vl_two (Or.inr ⟨rfl, by rw [Vl_s q1 c82, Vl_s q2 c91]; show (if h.1 (157, 0) (a + 1) = 0 then none else some _) = _; rw [if_pos c112]⟩)⟩
set_option maxRecDepth 4000 in
theorem cm_does_60 {E : En} (hok : EOK E) {h : Hp} (hs : Shp h.2) {a : Nat} (ha : a + 1 < 240) {v1 v2 : Option Int32} (q1 : Vl h a v1) (q2 : Vl h (a + 1) v2) : Call E m_X12_does 1 0 0 [vR MO, vI (nI 60), vI (nI a)] h (fun r h' => r = none ∧ Wk a h h' ∧ Vl h' a (vBin 60 v1 v2)) := by
  refine Call.enter hok (by decide) (Nat.le_of_ble_eq_true rfl) ?_
  show G E m_X12_does 1 0 0 _ h 0 [some (vR MO), some (vI (nI 60)), some (vI (nI a)), none] [] h 0 0
  refine g_iload_n (pc' := 1) dX12_does_0 rfl rfl ?_
  refine g_iconstN (n := 1) (pc' := 2) dX12_does_1 rfl ?_
  refine g_iaddN (pc' := 3) dX12_does_2 rfl ?_
  refine g_istore_n (pc' := 4) dX12_does_3 rfl (by decide) rfl ?_
  try simp only [List.set]
  refine g_iload_n (pc' := 5) dX12_does_4 rfl rfl ?_
  refine g_bipushN (n := 38) (pc' := 7) dX12_does_5 rfl (by decide) ?_
  refine g_icmp_eqN (tgt := 16) (pc' := 10) dX12_does_7 rfl (by decide) (by decide) (by decide) (fun q => False.elim (by revert q; decide)) (fun _ => ?_)
  refine g_iload_n (pc' := 11) dX12_does_10 rfl rfl ?_
  refine g_bipushN (n := 124) (pc' := 13) dX12_does_11 rfl (by decide) ?_
  refine g_icmp_neN (tgt := 71) (pc' := 16) dX12_does_13 rfl (by decide) (by decide) (by decide) (fun _ => ?_) (fun q => False.elim (by revert q; decide))
  refine g_aload_n (pc' := 72) dX12_does_71 rfl rfl ?_
  refine g_getS (pc' := 75) (k := 58) (b := (158, 0)) dX12_does_72 rfl rfl ck_13 (by decide) fl_X12_123 rfl hs rfl ?_
  refine g_iload_n (pc' := 76) dX12_does_75 rfl rfl ?_
  refine g_aload_n (pc' := 77) dX12_does_76 rfl rfl ?_
  refine g_getS (pc' := 80) (k := 58) (b := (158, 0)) dX12_does_77 rfl rfl ck_13 (by decide) fl_X12_123 rfl hs rfl ?_
  refine g_iload_n (pc' := 81) dX12_does_80 rfl rfl ?_
  refine g_zaldN (pc' := 82) (v := _) dX12_does_81 rfl rfl (by decide) (by omega) (rfl) ?_
  refine g_if_ne (tgt := 115) (pc' := 85) dX12_does_82 rfl (by decide) (fun c82 => ?_) (fun c82 => ?_)
  ·
    refine g_iconstN (n := 1) (pc' := 116) dX12_does_115 rfl ?_
    refine g_goto (tgt := 120) dX12_does_116 (by decide) ?_
    refine g_zastN (pc' := 121) dX12_does_120 rfl rfl (by decide) (by omega) ?_
    refine g_aload_n (pc' := 122) dX12_does_121 rfl rfl ?_
    refine g_getS (pc' := 125) (k := 57) (b := (157, 0)) dX12_does_122 rfl rfl ck_13 (by decide) fl_X12_120 rfl hs rfl ?_
    refine g_iload_n (pc' := 126) dX12_does_125 rfl rfl ?_
    refine g_iload_n (pc' := 127) dX12_does_126 rfl rfl ?_
    refine g_aload_n (pc' := 128) dX12_does_127 rfl rfl ?_
    refine g_getS (pc' := 131) (k := 57) (b := (157, 0)) dX12_does_128 rfl rfl ck_13 (by decide) fl_X12_120 rfl hs rfl ?_
    refine g_iload_n (pc' := 132) dX12_does_131 rfl rfl ?_
    refine g_ialdN (pc' := 133) (v := _) dX12_does_132 rfl rfl (by decide) (by omega) (rfl) ?_
    refine g_aload_n (pc' := 134) dX12_does_133 rfl rfl ?_
    refine g_getS (pc' := 137) (k := 57) (b := (157, 0)) dX12_does_134 rfl rfl ck_13 (by decide) fl_X12_120 rfl hs rfl ?_
    refine g_iload_n (pc' := 138) dX12_does_137 rfl rfl ?_
    refine g_ialdN (pc' := 139) (v := _) dX12_does_138 rfl rfl (by decide) (by omega) (rfl) ?_
    refine g_invS (pc' := 142) (cm_worked_60 hok _ _) dX12_does_139 rfl ml_X12_403 st_X12_worked in_X12 co_X12_worked pd_X12_worked rfl (by omega) (by decide) ⟨by decide, by decide⟩ (Nat.le_of_ble_eq_true rfl) ?_
    rintro _ _ ⟨rfl, rfl⟩ -
    refine g_iastN (pc' := 143) dX12_does_142 rfl rfl (by decide) (by omega) ?_
    refine g_vret dX12_does_143 rfl (by decide) (by decide) ?_
    exact ⟨rfl, ((Wk.rf a h).w8 (Nat.le_refl a)).w7 (Nat.le_refl a), Vl_two (Or.inr ⟨rfl, by rw [Vl_n q1 c82]; rfl⟩)⟩
  ·
    refine g_aload_n (pc' := 86) dX12_does_85 rfl rfl ?_
    refine g_getS (pc' := 89) (k := 58) (b := (158, 0)) dX12_does_86 rfl rfl ck_13 (by decide) fl_X12_123 rfl hs rfl ?_
    refine g_iload_n (pc' := 90) dX12_does_89 rfl rfl ?_
    refine g_zaldN (pc' := 91) (v := _) dX12_does_90 rfl rfl (by decide) (by omega) (rfl) ?_
    refine g_if_ne (tgt := 115) (pc' := 94) dX12_does_91 rfl (by decide) (fun c91 => ?_) (fun c91 => ?_)
    ·
      refine g_iconstN (n := 1) (pc' := 116) dX12_does_115 rfl ?_
      refine g_goto (tgt := 120) dX12_does_116 (by decide) ?_
      refine g_zastN (pc' := 121) dX12_does_120 rfl rfl (by decide) (by omega) ?_
      refine g_aload_n (pc' := 122) dX12_does_121 rfl rfl ?_
      refine g_getS (pc' := 125) (k := 57) (b := (157, 0)) dX12_does_122 rfl rfl ck_13 (by decide) fl_X12_120 rfl hs rfl ?_
      refine g_iload_n (pc' := 126) dX12_does_125 rfl rfl ?_
      refine g_iload_n (pc' := 127) dX12_does_126 rfl rfl ?_
      refine g_aload_n (pc' := 128) dX12_does_127 rfl rfl ?_
      refine g_getS (pc' := 131) (k := 57) (b := (157, 0)) dX12_does_128 rfl rfl ck_13 (by decide) fl_X12_120 rfl hs rfl ?_
      refine g_iload_n (pc' := 132) dX12_does_131 rfl rfl ?_
      refine g_ialdN (pc' := 133) (v := _) dX12_does_132 rfl rfl (by decide) (by omega) (rfl) ?_
      refine g_aload_n (pc' := 134) dX12_does_133 rfl rfl ?_
      refine g_getS (pc' := 137) (k := 57) (b := (157, 0)) dX12_does_134 rfl rfl ck_13 (by decide) fl_X12_120 rfl hs rfl ?_
      refine g_iload_n (pc' := 138) dX12_does_137 rfl rfl ?_
      refine g_ialdN (pc' := 139) (v := _) dX12_does_138 rfl rfl (by decide) (by omega) (rfl) ?_
      refine g_invS (pc' := 142) (cm_worked_60 hok _ _) dX12_does_139 rfl ml_X12_403 st_X12_worked in_X12 co_X12_worked pd_X12_worked rfl (by omega) (by decide) ⟨by decide, by decide⟩ (Nat.le_of_ble_eq_true rfl) ?_
      rintro _ _ ⟨rfl, rfl⟩ -
      refine g_iastN (pc' := 143) dX12_does_142 rfl rfl (by decide) (by omega) ?_
      refine g_vret dX12_does_143 rfl (by decide) (by decide) ?_
      exact ⟨rfl, ((Wk.rf a h).w8 (Nat.le_refl a)).w7 (Nat.le_refl a), Vl_two (Or.inr ⟨rfl, by rw [Vl_n q2 c91, Vl_s q1 c82]; rfl⟩)⟩
    ·
      refine g_iload_n (pc' := 95) dX12_does_94 rfl rfl ?_
      refine g_bipushN (n := 47) (pc' := 97) dX12_does_95 rfl (by decide) ?_
      refine g_icmp_eqN (tgt := 106) (pc' := 100) dX12_does_97 rfl (by decide) (by decide) (by decide) (fun q => False.elim (by revert q; decide)) (fun _ => ?_)
      refine g_iload_n (pc' := 101) dX12_does_100 rfl rfl ?_
      refine g_bipushN (n := 37) (pc' := 103) dX12_does_101 rfl (by decide) ?_
      refine g_icmp_neN (tgt := 119) (pc' := 106) dX12_does_103 rfl (by decide) (by decide) (by decide) (fun _ => ?_) (fun q => False.elim (by revert q; decide))
      refine g_iconstN (n := 0) (pc' := 120) dX12_does_119 rfl ?_
      refine g_zastN (pc' := 121) dX12_does_120 rfl rfl (by decide) (by omega) ?_
      refine g_aload_n (pc' := 122) dX12_does_121 rfl rfl ?_
      refine g_getS (pc' := 125) (k := 57) (b := (157, 0)) dX12_does_122 rfl rfl ck_13 (by decide) fl_X12_120 rfl hs rfl ?_
      refine g_iload_n (pc' := 126) dX12_does_125 rfl rfl ?_
      refine g_iload_n (pc' := 127) dX12_does_126 rfl rfl ?_
      refine g_aload_n (pc' := 128) dX12_does_127 rfl rfl ?_
      refine g_getS (pc' := 131) (k := 57) (b := (157, 0)) dX12_does_128 rfl rfl ck_13 (by decide) fl_X12_120 rfl hs rfl ?_
      refine g_iload_n (pc' := 132) dX12_does_131 rfl rfl ?_
      refine g_ialdN (pc' := 133) (v := _) dX12_does_132 rfl rfl (by decide) (by omega) (rfl) ?_
      refine g_aload_n (pc' := 134) dX12_does_133 rfl rfl ?_
      refine g_getS (pc' := 137) (k := 57) (b := (157, 0)) dX12_does_134 rfl rfl ck_13 (by decide) fl_X12_120 rfl hs rfl ?_
      refine g_iload_n (pc' := 138) dX12_does_137 rfl rfl ?_
      refine g_ialdN (pc' := 139) (v := _) dX12_does_138 rfl rfl (by decide) (by omega) (rfl) ?_
      refine g_invS (pc' := 142) (cm_worked_60 hok _ _) dX12_does_139 rfl ml_X12_403 st_X12_worked in_X12 co_X12_worked pd_X12_worked rfl (by omega) (by decide) ⟨by decide, by decide⟩ (Nat.le_of_ble_eq_true rfl) ?_
      rintro _ _ ⟨rfl, rfl⟩ -
      refine g_iastN (pc' := 143) dX12_does_142 rfl rfl (by decide) (by omega) ?_
      refine g_vret dX12_does_143 rfl (by decide) (by decide) ?_
      exact ⟨rfl, ((Wk.rf a h).w8 (Nat.le_refl a)).w7 (Nat.le_refl a), Vl_two (Or.inl ⟨rfl, by rw [Vl_s q1 c82, Vl_s q2 c91]; rfl⟩)⟩
set_option maxRecDepth 4000 in
theorem cm_does_62 {E : En} (hok : EOK E) {h : Hp} (hs : Shp h.2) {a : Nat} (ha : a + 1 < 240) {v1 v2 : Option Int32} (q1 : Vl h a v1) (q2 : Vl h (a + 1) v2) : Call E m_X12_does 1 0 0 [vR MO, vI (nI 62), vI (nI a)] h (fun r h' => r = none ∧ Wk a h h' ∧ Vl h' a (vBin 62 v1 v2)) := by
  refine Call.enter hok (by decide) (Nat.le_of_ble_eq_true rfl) ?_
  show G E m_X12_does 1 0 0 _ h 0 [some (vR MO), some (vI (nI 62)), some (vI (nI a)), none] [] h 0 0
  refine g_iload_n (pc' := 1) dX12_does_0 rfl rfl ?_
  refine g_iconstN (n := 1) (pc' := 2) dX12_does_1 rfl ?_
  refine g_iaddN (pc' := 3) dX12_does_2 rfl ?_
  refine g_istore_n (pc' := 4) dX12_does_3 rfl (by decide) rfl ?_
  try simp only [List.set]
  refine g_iload_n (pc' := 5) dX12_does_4 rfl rfl ?_
  refine g_bipushN (n := 38) (pc' := 7) dX12_does_5 rfl (by decide) ?_
  refine g_icmp_eqN (tgt := 16) (pc' := 10) dX12_does_7 rfl (by decide) (by decide) (by decide) (fun q => False.elim (by revert q; decide)) (fun _ => ?_)
  refine g_iload_n (pc' := 11) dX12_does_10 rfl rfl ?_
  refine g_bipushN (n := 124) (pc' := 13) dX12_does_11 rfl (by decide) ?_
  refine g_icmp_neN (tgt := 71) (pc' := 16) dX12_does_13 rfl (by decide) (by decide) (by decide) (fun _ => ?_) (fun q => False.elim (by revert q; decide))
  refine g_aload_n (pc' := 72) dX12_does_71 rfl rfl ?_
  refine g_getS (pc' := 75) (k := 58) (b := (158, 0)) dX12_does_72 rfl rfl ck_13 (by decide) fl_X12_123 rfl hs rfl ?_
  refine g_iload_n (pc' := 76) dX12_does_75 rfl rfl ?_
  refine g_aload_n (pc' := 77) dX12_does_76 rfl rfl ?_
  refine g_getS (pc' := 80) (k := 58) (b := (158, 0)) dX12_does_77 rfl rfl ck_13 (by decide) fl_X12_123 rfl hs rfl ?_
  refine g_iload_n (pc' := 81) dX12_does_80 rfl rfl ?_
  refine g_zaldN (pc' := 82) (v := _) dX12_does_81 rfl rfl (by decide) (by omega) (rfl) ?_
  refine g_if_ne (tgt := 115) (pc' := 85) dX12_does_82 rfl (by decide) (fun c82 => ?_) (fun c82 => ?_)
  ·
    refine g_iconstN (n := 1) (pc' := 116) dX12_does_115 rfl ?_
    refine g_goto (tgt := 120) dX12_does_116 (by decide) ?_
    refine g_zastN (pc' := 121) dX12_does_120 rfl rfl (by decide) (by omega) ?_
    refine g_aload_n (pc' := 122) dX12_does_121 rfl rfl ?_
    refine g_getS (pc' := 125) (k := 57) (b := (157, 0)) dX12_does_122 rfl rfl ck_13 (by decide) fl_X12_120 rfl hs rfl ?_
    refine g_iload_n (pc' := 126) dX12_does_125 rfl rfl ?_
    refine g_iload_n (pc' := 127) dX12_does_126 rfl rfl ?_
    refine g_aload_n (pc' := 128) dX12_does_127 rfl rfl ?_
    refine g_getS (pc' := 131) (k := 57) (b := (157, 0)) dX12_does_128 rfl rfl ck_13 (by decide) fl_X12_120 rfl hs rfl ?_
    refine g_iload_n (pc' := 132) dX12_does_131 rfl rfl ?_
    refine g_ialdN (pc' := 133) (v := _) dX12_does_132 rfl rfl (by decide) (by omega) (rfl) ?_
    refine g_aload_n (pc' := 134) dX12_does_133 rfl rfl ?_
    refine g_getS (pc' := 137) (k := 57) (b := (157, 0)) dX12_does_134 rfl rfl ck_13 (by decide) fl_X12_120 rfl hs rfl ?_
    refine g_iload_n (pc' := 138) dX12_does_137 rfl rfl ?_
    refine g_ialdN (pc' := 139) (v := _) dX12_does_138 rfl rfl (by decide) (by omega) (rfl) ?_
    refine g_invS (pc' := 142) (cm_worked_62 hok _ _) dX12_does_139 rfl ml_X12_403 st_X12_worked in_X12 co_X12_worked pd_X12_worked rfl (by omega) (by decide) ⟨by decide, by decide⟩ (Nat.le_of_ble_eq_true rfl) ?_
    rintro _ _ ⟨rfl, rfl⟩ -
    refine g_iastN (pc' := 143) dX12_does_142 rfl rfl (by decide) (by omega) ?_
    refine g_vret dX12_does_143 rfl (by decide) (by decide) ?_
    exact ⟨rfl, ((Wk.rf a h).w8 (Nat.le_refl a)).w7 (Nat.le_refl a), Vl_two (Or.inr ⟨rfl, by rw [Vl_n q1 c82]; rfl⟩)⟩
  ·
    refine g_aload_n (pc' := 86) dX12_does_85 rfl rfl ?_
    refine g_getS (pc' := 89) (k := 58) (b := (158, 0)) dX12_does_86 rfl rfl ck_13 (by decide) fl_X12_123 rfl hs rfl ?_
    refine g_iload_n (pc' := 90) dX12_does_89 rfl rfl ?_
    refine g_zaldN (pc' := 91) (v := _) dX12_does_90 rfl rfl (by decide) (by omega) (rfl) ?_
    refine g_if_ne (tgt := 115) (pc' := 94) dX12_does_91 rfl (by decide) (fun c91 => ?_) (fun c91 => ?_)
    ·
      refine g_iconstN (n := 1) (pc' := 116) dX12_does_115 rfl ?_
      refine g_goto (tgt := 120) dX12_does_116 (by decide) ?_
      refine g_zastN (pc' := 121) dX12_does_120 rfl rfl (by decide) (by omega) ?_
      refine g_aload_n (pc' := 122) dX12_does_121 rfl rfl ?_
      refine g_getS (pc' := 125) (k := 57) (b := (157, 0)) dX12_does_122 rfl rfl ck_13 (by decide) fl_X12_120 rfl hs rfl ?_
      refine g_iload_n (pc' := 126) dX12_does_125 rfl rfl ?_
      refine g_iload_n (pc' := 127) dX12_does_126 rfl rfl ?_
      refine g_aload_n (pc' := 128) dX12_does_127 rfl rfl ?_
      refine g_getS (pc' := 131) (k := 57) (b := (157, 0)) dX12_does_128 rfl rfl ck_13 (by decide) fl_X12_120 rfl hs rfl ?_
      refine g_iload_n (pc' := 132) dX12_does_131 rfl rfl ?_
      refine g_ialdN (pc' := 133) (v := _) dX12_does_132 rfl rfl (by decide) (by omega) (rfl) ?_
      refine g_aload_n (pc' := 134) dX12_does_133 rfl rfl ?_
      refine g_getS (pc' := 137) (k := 57) (b := (157, 0)) dX12_does_134 rfl rfl ck_13 (by decide) fl_X12_120 rfl hs rfl ?_
      refine g_iload_n (pc' := 138) dX12_does_137 rfl rfl ?_
      refine g_ialdN (pc' := 139) (v := _) dX12_does_138 rfl rfl (by decide) (by omega) (rfl) ?_
      refine g_invS (pc' := 142) (cm_worked_62 hok _ _) dX12_does_139 rfl ml_X12_403 st_X12_worked in_X12 co_X12_worked pd_X12_worked rfl (by omega) (by decide) ⟨by decide, by decide⟩ (Nat.le_of_ble_eq_true rfl) ?_
      rintro _ _ ⟨rfl, rfl⟩ -
      refine g_iastN (pc' := 143) dX12_does_142 rfl rfl (by decide) (by omega) ?_
      refine g_vret dX12_does_143 rfl (by decide) (by decide) ?_
      exact ⟨rfl, ((Wk.rf a h).w8 (Nat.le_refl a)).w7 (Nat.le_refl a), Vl_two (Or.inr ⟨rfl, by rw [Vl_n q2 c91, Vl_s q1 c82]; rfl⟩)⟩
    ·
      refine g_iload_n (pc' := 95) dX12_does_94 rfl rfl ?_
      refine g_bipushN (n := 47) (pc' := 97) dX12_does_95 rfl (by decide) ?_
      refine g_icmp_eqN (tgt := 106) (pc' := 100) dX12_does_97 rfl (by decide) (by decide) (by decide) (fun q => False.elim (by revert q; decide)) (fun _ => ?_)
      refine g_iload_n (pc' := 101) dX12_does_100 rfl rfl ?_
      refine g_bipushN (n := 37) (pc' := 103) dX12_does_101 rfl (by decide) ?_
      refine g_icmp_neN (tgt := 119) (pc' := 106) dX12_does_103 rfl (by decide) (by decide) (by decide) (fun _ => ?_) (fun q => False.elim (by revert q; decide))
      refine g_iconstN (n := 0) (pc' := 120) dX12_does_119 rfl ?_
      refine g_zastN (pc' := 121) dX12_does_120 rfl rfl (by decide) (by omega) ?_
      refine g_aload_n (pc' := 122) dX12_does_121 rfl rfl ?_
      refine g_getS (pc' := 125) (k := 57) (b := (157, 0)) dX12_does_122 rfl rfl ck_13 (by decide) fl_X12_120 rfl hs rfl ?_
      refine g_iload_n (pc' := 126) dX12_does_125 rfl rfl ?_
      refine g_iload_n (pc' := 127) dX12_does_126 rfl rfl ?_
      refine g_aload_n (pc' := 128) dX12_does_127 rfl rfl ?_
      refine g_getS (pc' := 131) (k := 57) (b := (157, 0)) dX12_does_128 rfl rfl ck_13 (by decide) fl_X12_120 rfl hs rfl ?_
      refine g_iload_n (pc' := 132) dX12_does_131 rfl rfl ?_
      refine g_ialdN (pc' := 133) (v := _) dX12_does_132 rfl rfl (by decide) (by omega) (rfl) ?_
      refine g_aload_n (pc' := 134) dX12_does_133 rfl rfl ?_
      refine g_getS (pc' := 137) (k := 57) (b := (157, 0)) dX12_does_134 rfl rfl ck_13 (by decide) fl_X12_120 rfl hs rfl ?_
      refine g_iload_n (pc' := 138) dX12_does_137 rfl rfl ?_
      refine g_ialdN (pc' := 139) (v := _) dX12_does_138 rfl rfl (by decide) (by omega) (rfl) ?_
      refine g_invS (pc' := 142) (cm_worked_62 hok _ _) dX12_does_139 rfl ml_X12_403 st_X12_worked in_X12 co_X12_worked pd_X12_worked rfl (by omega) (by decide) ⟨by decide, by decide⟩ (Nat.le_of_ble_eq_true rfl) ?_
      rintro _ _ ⟨rfl, rfl⟩ -
      refine g_iastN (pc' := 143) dX12_does_142 rfl rfl (by decide) (by omega) ?_
      refine g_vret dX12_does_143 rfl (by decide) (by decide) ?_
      exact ⟨rfl, ((Wk.rf a h).w8 (Nat.le_refl a)).w7 (Nat.le_refl a), Vl_two (Or.inl ⟨rfl, by rw [Vl_s q1 c82, Vl_s q2 c91]; rfl⟩)⟩
set_option maxRecDepth 4000 in
theorem cm_does_61 {E : En} (hok : EOK E) {h : Hp} (hs : Shp h.2) {a : Nat} (ha : a + 1 < 240) {v1 v2 : Option Int32} (q1 : Vl h a v1) (q2 : Vl h (a + 1) v2) : Call E m_X12_does 1 0 0 [vR MO, vI (nI 61), vI (nI a)] h (fun r h' => r = none ∧ Wk a h h' ∧ Vl h' a (vBin 61 v1 v2)) := by
  refine Call.enter hok (by decide) (Nat.le_of_ble_eq_true rfl) ?_
  show G E m_X12_does 1 0 0 _ h 0 [some (vR MO), some (vI (nI 61)), some (vI (nI a)), none] [] h 0 0
  refine g_iload_n (pc' := 1) dX12_does_0 rfl rfl ?_
  refine g_iconstN (n := 1) (pc' := 2) dX12_does_1 rfl ?_
  refine g_iaddN (pc' := 3) dX12_does_2 rfl ?_
  refine g_istore_n (pc' := 4) dX12_does_3 rfl (by decide) rfl ?_
  try simp only [List.set]
  refine g_iload_n (pc' := 5) dX12_does_4 rfl rfl ?_
  refine g_bipushN (n := 38) (pc' := 7) dX12_does_5 rfl (by decide) ?_
  refine g_icmp_eqN (tgt := 16) (pc' := 10) dX12_does_7 rfl (by decide) (by decide) (by decide) (fun q => False.elim (by revert q; decide)) (fun _ => ?_)
  refine g_iload_n (pc' := 11) dX12_does_10 rfl rfl ?_
  refine g_bipushN (n := 124) (pc' := 13) dX12_does_11 rfl (by decide) ?_
  refine g_icmp_neN (tgt := 71) (pc' := 16) dX12_does_13 rfl (by decide) (by decide) (by decide) (fun _ => ?_) (fun q => False.elim (by revert q; decide))
  refine g_aload_n (pc' := 72) dX12_does_71 rfl rfl ?_
  refine g_getS (pc' := 75) (k := 58) (b := (158, 0)) dX12_does_72 rfl rfl ck_13 (by decide) fl_X12_123 rfl hs rfl ?_
  refine g_iload_n (pc' := 76) dX12_does_75 rfl rfl ?_
  refine g_aload_n (pc' := 77) dX12_does_76 rfl rfl ?_
  refine g_getS (pc' := 80) (k := 58) (b := (158, 0)) dX12_does_77 rfl rfl ck_13 (by decide) fl_X12_123 rfl hs rfl ?_
  refine g_iload_n (pc' := 81) dX12_does_80 rfl rfl ?_
  refine g_zaldN (pc' := 82) (v := _) dX12_does_81 rfl rfl (by decide) (by omega) (rfl) ?_
  refine g_if_ne (tgt := 115) (pc' := 85) dX12_does_82 rfl (by decide) (fun c82 => ?_) (fun c82 => ?_)
  ·
    refine g_iconstN (n := 1) (pc' := 116) dX12_does_115 rfl ?_
    refine g_goto (tgt := 120) dX12_does_116 (by decide) ?_
    refine g_zastN (pc' := 121) dX12_does_120 rfl rfl (by decide) (by omega) ?_
    refine g_aload_n (pc' := 122) dX12_does_121 rfl rfl ?_
    refine g_getS (pc' := 125) (k := 57) (b := (157, 0)) dX12_does_122 rfl rfl ck_13 (by decide) fl_X12_120 rfl hs rfl ?_
    refine g_iload_n (pc' := 126) dX12_does_125 rfl rfl ?_
    refine g_iload_n (pc' := 127) dX12_does_126 rfl rfl ?_
    refine g_aload_n (pc' := 128) dX12_does_127 rfl rfl ?_
    refine g_getS (pc' := 131) (k := 57) (b := (157, 0)) dX12_does_128 rfl rfl ck_13 (by decide) fl_X12_120 rfl hs rfl ?_
    refine g_iload_n (pc' := 132) dX12_does_131 rfl rfl ?_
    refine g_ialdN (pc' := 133) (v := _) dX12_does_132 rfl rfl (by decide) (by omega) (rfl) ?_
    refine g_aload_n (pc' := 134) dX12_does_133 rfl rfl ?_
    refine g_getS (pc' := 137) (k := 57) (b := (157, 0)) dX12_does_134 rfl rfl ck_13 (by decide) fl_X12_120 rfl hs rfl ?_
    refine g_iload_n (pc' := 138) dX12_does_137 rfl rfl ?_
    refine g_ialdN (pc' := 139) (v := _) dX12_does_138 rfl rfl (by decide) (by omega) (rfl) ?_
    refine g_invS (pc' := 142) (cm_worked_61 hok _ _) dX12_does_139 rfl ml_X12_403 st_X12_worked in_X12 co_X12_worked pd_X12_worked rfl (by omega) (by decide) ⟨by decide, by decide⟩ (Nat.le_of_ble_eq_true rfl) ?_
    rintro _ _ ⟨rfl, rfl⟩ -
    refine g_iastN (pc' := 143) dX12_does_142 rfl rfl (by decide) (by omega) ?_
    refine g_vret dX12_does_143 rfl (by decide) (by decide) ?_
    exact ⟨rfl, ((Wk.rf a h).w8 (Nat.le_refl a)).w7 (Nat.le_refl a), Vl_two (Or.inr ⟨rfl, by rw [Vl_n q1 c82]; rfl⟩)⟩
  ·
    refine g_aload_n (pc' := 86) dX12_does_85 rfl rfl ?_
    refine g_getS (pc' := 89) (k := 58) (b := (158, 0)) dX12_does_86 rfl rfl ck_13 (by decide) fl_X12_123 rfl hs rfl ?_
    refine g_iload_n (pc' := 90) dX12_does_89 rfl rfl ?_
    refine g_zaldN (pc' := 91) (v := _) dX12_does_90 rfl rfl (by decide) (by omega) (rfl) ?_
    refine g_if_ne (tgt := 115) (pc' := 94) dX12_does_91 rfl (by decide) (fun c91 => ?_) (fun c91 => ?_)
    ·
      refine g_iconstN (n := 1) (pc' := 116) dX12_does_115 rfl ?_
      refine g_goto (tgt := 120) dX12_does_116 (by decide) ?_
      refine g_zastN (pc' := 121) dX12_does_120 rfl rfl (by decide) (by omega) ?_
      refine g_aload_n (pc' := 122) dX12_does_121 rfl rfl ?_
      refine g_getS (pc' := 125) (k := 57) (b := (157, 0)) dX12_does_122 rfl rfl ck_13 (by decide) fl_X12_120 rfl hs rfl ?_
      refine g_iload_n (pc' := 126) dX12_does_125 rfl rfl ?_
      refine g_iload_n (pc' := 127) dX12_does_126 rfl rfl ?_
      refine g_aload_n (pc' := 128) dX12_does_127 rfl rfl ?_
      refine g_getS (pc' := 131) (k := 57) (b := (157, 0)) dX12_does_128 rfl rfl ck_13 (by decide) fl_X12_120 rfl hs rfl ?_
      refine g_iload_n (pc' := 132) dX12_does_131 rfl rfl ?_
      refine g_ialdN (pc' := 133) (v := _) dX12_does_132 rfl rfl (by decide) (by omega) (rfl) ?_
      refine g_aload_n (pc' := 134) dX12_does_133 rfl rfl ?_
      refine g_getS (pc' := 137) (k := 57) (b := (157, 0)) dX12_does_134 rfl rfl ck_13 (by decide) fl_X12_120 rfl hs rfl ?_
      refine g_iload_n (pc' := 138) dX12_does_137 rfl rfl ?_
      refine g_ialdN (pc' := 139) (v := _) dX12_does_138 rfl rfl (by decide) (by omega) (rfl) ?_
      refine g_invS (pc' := 142) (cm_worked_61 hok _ _) dX12_does_139 rfl ml_X12_403 st_X12_worked in_X12 co_X12_worked pd_X12_worked rfl (by omega) (by decide) ⟨by decide, by decide⟩ (Nat.le_of_ble_eq_true rfl) ?_
      rintro _ _ ⟨rfl, rfl⟩ -
      refine g_iastN (pc' := 143) dX12_does_142 rfl rfl (by decide) (by omega) ?_
      refine g_vret dX12_does_143 rfl (by decide) (by decide) ?_
      exact ⟨rfl, ((Wk.rf a h).w8 (Nat.le_refl a)).w7 (Nat.le_refl a), Vl_two (Or.inr ⟨rfl, by rw [Vl_n q2 c91, Vl_s q1 c82]; rfl⟩)⟩
    ·
      refine g_iload_n (pc' := 95) dX12_does_94 rfl rfl ?_
      refine g_bipushN (n := 47) (pc' := 97) dX12_does_95 rfl (by decide) ?_
      refine g_icmp_eqN (tgt := 106) (pc' := 100) dX12_does_97 rfl (by decide) (by decide) (by decide) (fun q => False.elim (by revert q; decide)) (fun _ => ?_)
      refine g_iload_n (pc' := 101) dX12_does_100 rfl rfl ?_
      refine g_bipushN (n := 37) (pc' := 103) dX12_does_101 rfl (by decide) ?_
      refine g_icmp_neN (tgt := 119) (pc' := 106) dX12_does_103 rfl (by decide) (by decide) (by decide) (fun _ => ?_) (fun q => False.elim (by revert q; decide))
      refine g_iconstN (n := 0) (pc' := 120) dX12_does_119 rfl ?_
      refine g_zastN (pc' := 121) dX12_does_120 rfl rfl (by decide) (by omega) ?_
      refine g_aload_n (pc' := 122) dX12_does_121 rfl rfl ?_
      refine g_getS (pc' := 125) (k := 57) (b := (157, 0)) dX12_does_122 rfl rfl ck_13 (by decide) fl_X12_120 rfl hs rfl ?_
      refine g_iload_n (pc' := 126) dX12_does_125 rfl rfl ?_
      refine g_iload_n (pc' := 127) dX12_does_126 rfl rfl ?_
      refine g_aload_n (pc' := 128) dX12_does_127 rfl rfl ?_
      refine g_getS (pc' := 131) (k := 57) (b := (157, 0)) dX12_does_128 rfl rfl ck_13 (by decide) fl_X12_120 rfl hs rfl ?_
      refine g_iload_n (pc' := 132) dX12_does_131 rfl rfl ?_
      refine g_ialdN (pc' := 133) (v := _) dX12_does_132 rfl rfl (by decide) (by omega) (rfl) ?_
      refine g_aload_n (pc' := 134) dX12_does_133 rfl rfl ?_
      refine g_getS (pc' := 137) (k := 57) (b := (157, 0)) dX12_does_134 rfl rfl ck_13 (by decide) fl_X12_120 rfl hs rfl ?_
      refine g_iload_n (pc' := 138) dX12_does_137 rfl rfl ?_
      refine g_ialdN (pc' := 139) (v := _) dX12_does_138 rfl rfl (by decide) (by omega) (rfl) ?_
      refine g_invS (pc' := 142) (cm_worked_61 hok _ _) dX12_does_139 rfl ml_X12_403 st_X12_worked in_X12 co_X12_worked pd_X12_worked rfl (by omega) (by decide) ⟨by decide, by decide⟩ (Nat.le_of_ble_eq_true rfl) ?_
      rintro _ _ ⟨rfl, rfl⟩ -
      refine g_iastN (pc' := 143) dX12_does_142 rfl rfl (by decide) (by omega) ?_
      refine g_vret dX12_does_143 rfl (by decide) (by decide) ?_
      exact ⟨rfl, ((Wk.rf a h).w8 (Nat.le_refl a)).w7 (Nat.le_refl a), Vl_two (Or.inl ⟨rfl, by rw [Vl_s q1 c82, Vl_s q2 c91]; rfl⟩)⟩
set_option maxRecDepth 4000 in
theorem cm_does_38 {E : En} (hok : EOK E) {h : Hp} (hs : Shp h.2) {a : Nat} (ha : a + 1 < 240) {v1 v2 : Option Int32} (q1 : Vl h a v1) (q2 : Vl h (a + 1) v2) : Call E m_X12_does 1 0 0 [vR MO, vI (nI 38), vI (nI a)] h (fun r h' => r = none ∧ Wk a h h' ∧ Vl h' a (vAnd v1 v2)) := by
  refine Call.enter hok (by decide) (Nat.le_of_ble_eq_true rfl) ?_
  show G E m_X12_does 1 0 0 _ h 0 [some (vR MO), some (vI (nI 38)), some (vI (nI a)), none] [] h 0 0
  refine g_iload_n (pc' := 1) dX12_does_0 rfl rfl ?_
  refine g_iconstN (n := 1) (pc' := 2) dX12_does_1 rfl ?_
  refine g_iaddN (pc' := 3) dX12_does_2 rfl ?_
  refine g_istore_n (pc' := 4) dX12_does_3 rfl (by decide) rfl ?_
  try simp only [List.set]
  refine g_iload_n (pc' := 5) dX12_does_4 rfl rfl ?_
  refine g_bipushN (n := 38) (pc' := 7) dX12_does_5 rfl (by decide) ?_
  refine g_icmp_eqN (tgt := 16) (pc' := 10) dX12_does_7 rfl (by decide) (by decide) (by decide) (fun _ => ?_) (fun q => False.elim (by revert q; decide))
  refine g_aload_n (pc' := 17) dX12_does_16 rfl rfl ?_
  refine g_getS (pc' := 20) (k := 58) (b := (158, 0)) dX12_does_17 rfl rfl ck_13 (by decide) fl_X12_123 rfl hs rfl ?_
  refine g_iload_n (pc' := 21) dX12_does_20 rfl rfl ?_
  refine g_zaldN (pc' := 22) (v := _) dX12_does_21 rfl rfl (by decide) (by omega) (rfl) ?_
  refine g_if_ne (tgt := 45) (pc' := 25) dX12_does_22 rfl (by decide) (fun c22 => ?_) (fun c22 => ?_)
  ·
    refine g_vret dX12_does_45 rfl (by decide) (by decide) ?_
    have e := Vl_n q1 c22
    subst e
    exact ⟨rfl, Wk.rf a h, q1⟩
  ·
    refine g_aload_n (pc' := 26) dX12_does_25 rfl rfl ?_
    refine g_getS (pc' := 29) (k := 57) (b := (157, 0)) dX12_does_26 rfl rfl ck_13 (by decide) fl_X12_120 rfl hs rfl ?_
    refine g_iload_n (pc' := 30) dX12_does_29 rfl rfl ?_
    refine g_ialdN (pc' := 31) (v := _) dX12_does_30 rfl rfl (by decide) (by omega) (rfl) ?_
    refine g_iload_n (pc' := 32) dX12_does_31 rfl rfl ?_
    refine g_bipushN (n := 38) (pc' := 34) dX12_does_32 rfl (by decide) ?_
    refine g_icmp_neN (tgt := 41) (pc' := 37) dX12_does_34 rfl (by decide) (by decide) (by decide) (fun q => False.elim (by revert q; decide)) (fun _ => ?_)
    refine g_iconstN (n := 1) (pc' := 38) dX12_does_37 rfl ?_
    refine g_goto (tgt := 42) dX12_does_38 (by decide) ?_
    refine g_icmp_eq (tgt := 46) (pc' := 45) dX12_does_42 rfl (by decide) (fun c42 => ?_) (fun c42 => ?_)
    ·
      refine g_aload_n (pc' := 47) dX12_does_46 rfl rfl ?_
      refine g_getS (pc' := 50) (k := 57) (b := (157, 0)) dX12_does_47 rfl rfl ck_13 (by decide) fl_X12_120 rfl hs rfl ?_
      refine g_iload_n (pc' := 51) dX12_does_50 rfl rfl ?_
      refine g_aload_n (pc' := 52) dX12_does_51 rfl rfl ?_
      refine g_getS (pc' := 55) (k := 57) (b := (157, 0)) dX12_does_52 rfl rfl ck_13 (by decide) fl_X12_120 rfl hs rfl ?_
      refine g_iload_n (pc' := 56) dX12_does_55 rfl rfl ?_
      refine g_ialdN (pc' := 57) (v := _) dX12_does_56 rfl rfl (by decide) (by omega) (rfl) ?_
      refine g_iastN (pc' := 58) dX12_does_57 rfl rfl (by decide) (by omega) ?_
      refine g_aload_n (pc' := 59) dX12_does_58 rfl rfl ?_
      refine g_getS (pc' := 62) (k := 58) (b := (158, 0)) dX12_does_59 rfl rfl ck_13 (by decide) fl_X12_123 rfl hs rfl ?_
      refine g_iload_n (pc' := 63) dX12_does_62 rfl rfl ?_
      refine g_aload_n (pc' := 64) dX12_does_63 rfl rfl ?_
      refine g_getS (pc' := 67) (k := 58) (b := (158, 0)) dX12_does_64 rfl rfl ck_13 (by decide) fl_X12_123 rfl hs rfl ?_
      refine g_iload_n (pc' := 68) dX12_does_67 rfl rfl ?_
      refine g_zaldN (pc' := 69) (v := _) dX12_does_68 rfl rfl (by decide) (by omega) (rfl) ?_
      refine g_zastN (pc' := 70) dX12_does_69 rfl rfl (by decide) (by omega) ?_
      refine g_vret dX12_does_70 rfl (by decide) (by decide) ?_
      refine ⟨rfl, ((Wk.rf a h).w7 (Nat.le_refl a)).w8 (Nat.le_refl a), ?_⟩
      rw [Vl_s q1 c22]
      show Vl _ a (if h.1 (157, 0) a = nI 1 then v2 else some (h.1 (157, 0) a))
      rw [if_pos c42]
      exact Vl_cp q2
    ·
      refine g_vret dX12_does_45 rfl (by decide) (by decide) ?_
      refine ⟨rfl, Wk.rf a h, ?_⟩
      rw [Vl_s q1 c22]
      show Vl h a (if h.1 (157, 0) a = nI 1 then v2 else some (h.1 (157, 0) a))
      rw [if_neg c42]
      exact ⟨c22, rfl⟩
set_option maxRecDepth 4000 in
theorem cm_does_124 {E : En} (hok : EOK E) {h : Hp} (hs : Shp h.2) {a : Nat} (ha : a + 1 < 240) {v1 v2 : Option Int32} (q1 : Vl h a v1) (q2 : Vl h (a + 1) v2) : Call E m_X12_does 1 0 0 [vR MO, vI (nI 124), vI (nI a)] h (fun r h' => r = none ∧ Wk a h h' ∧ Vl h' a (vOr v1 v2)) := by
  refine Call.enter hok (by decide) (Nat.le_of_ble_eq_true rfl) ?_
  show G E m_X12_does 1 0 0 _ h 0 [some (vR MO), some (vI (nI 124)), some (vI (nI a)), none] [] h 0 0
  refine g_iload_n (pc' := 1) dX12_does_0 rfl rfl ?_
  refine g_iconstN (n := 1) (pc' := 2) dX12_does_1 rfl ?_
  refine g_iaddN (pc' := 3) dX12_does_2 rfl ?_
  refine g_istore_n (pc' := 4) dX12_does_3 rfl (by decide) rfl ?_
  try simp only [List.set]
  refine g_iload_n (pc' := 5) dX12_does_4 rfl rfl ?_
  refine g_bipushN (n := 38) (pc' := 7) dX12_does_5 rfl (by decide) ?_
  refine g_icmp_eqN (tgt := 16) (pc' := 10) dX12_does_7 rfl (by decide) (by decide) (by decide) (fun q => False.elim (by revert q; decide)) (fun _ => ?_)
  refine g_iload_n (pc' := 11) dX12_does_10 rfl rfl ?_
  refine g_bipushN (n := 124) (pc' := 13) dX12_does_11 rfl (by decide) ?_
  refine g_icmp_neN (tgt := 71) (pc' := 16) dX12_does_13 rfl (by decide) (by decide) (by decide) (fun q => False.elim (by revert q; decide)) (fun _ => ?_)
  refine g_aload_n (pc' := 17) dX12_does_16 rfl rfl ?_
  refine g_getS (pc' := 20) (k := 58) (b := (158, 0)) dX12_does_17 rfl rfl ck_13 (by decide) fl_X12_123 rfl hs rfl ?_
  refine g_iload_n (pc' := 21) dX12_does_20 rfl rfl ?_
  refine g_zaldN (pc' := 22) (v := _) dX12_does_21 rfl rfl (by decide) (by omega) (rfl) ?_
  refine g_if_ne (tgt := 45) (pc' := 25) dX12_does_22 rfl (by decide) (fun c22 => ?_) (fun c22 => ?_)
  ·
    refine g_vret dX12_does_45 rfl (by decide) (by decide) ?_
    have e := Vl_n q1 c22
    subst e
    exact ⟨rfl, Wk.rf a h, q1⟩
  ·
    refine g_aload_n (pc' := 26) dX12_does_25 rfl rfl ?_
    refine g_getS (pc' := 29) (k := 57) (b := (157, 0)) dX12_does_26 rfl rfl ck_13 (by decide) fl_X12_120 rfl hs rfl ?_
    refine g_iload_n (pc' := 30) dX12_does_29 rfl rfl ?_
    refine g_ialdN (pc' := 31) (v := _) dX12_does_30 rfl rfl (by decide) (by omega) (rfl) ?_
    refine g_iload_n (pc' := 32) dX12_does_31 rfl rfl ?_
    refine g_bipushN (n := 38) (pc' := 34) dX12_does_32 rfl (by decide) ?_
    refine g_icmp_neN (tgt := 41) (pc' := 37) dX12_does_34 rfl (by decide) (by decide) (by decide) (fun _ => ?_) (fun q => False.elim (by revert q; decide))
    refine g_iconstN (n := 0) (pc' := 42) dX12_does_41 rfl ?_
    refine g_icmp_eq (tgt := 46) (pc' := 45) dX12_does_42 rfl (by decide) (fun c42 => ?_) (fun c42 => ?_)
    ·
      refine g_aload_n (pc' := 47) dX12_does_46 rfl rfl ?_
      refine g_getS (pc' := 50) (k := 57) (b := (157, 0)) dX12_does_47 rfl rfl ck_13 (by decide) fl_X12_120 rfl hs rfl ?_
      refine g_iload_n (pc' := 51) dX12_does_50 rfl rfl ?_
      refine g_aload_n (pc' := 52) dX12_does_51 rfl rfl ?_
      refine g_getS (pc' := 55) (k := 57) (b := (157, 0)) dX12_does_52 rfl rfl ck_13 (by decide) fl_X12_120 rfl hs rfl ?_
      refine g_iload_n (pc' := 56) dX12_does_55 rfl rfl ?_
      refine g_ialdN (pc' := 57) (v := _) dX12_does_56 rfl rfl (by decide) (by omega) (rfl) ?_
      refine g_iastN (pc' := 58) dX12_does_57 rfl rfl (by decide) (by omega) ?_
      refine g_aload_n (pc' := 59) dX12_does_58 rfl rfl ?_
      refine g_getS (pc' := 62) (k := 58) (b := (158, 0)) dX12_does_59 rfl rfl ck_13 (by decide) fl_X12_123 rfl hs rfl ?_
      refine g_iload_n (pc' := 63) dX12_does_62 rfl rfl ?_
      refine g_aload_n (pc' := 64) dX12_does_63 rfl rfl ?_
      refine g_getS (pc' := 67) (k := 58) (b := (158, 0)) dX12_does_64 rfl rfl ck_13 (by decide) fl_X12_123 rfl hs rfl ?_
      refine g_iload_n (pc' := 68) dX12_does_67 rfl rfl ?_
      refine g_zaldN (pc' := 69) (v := _) dX12_does_68 rfl rfl (by decide) (by omega) (rfl) ?_
      refine g_zastN (pc' := 70) dX12_does_69 rfl rfl (by decide) (by omega) ?_
      refine g_vret dX12_does_70 rfl (by decide) (by decide) ?_
      refine ⟨rfl, ((Wk.rf a h).w7 (Nat.le_refl a)).w8 (Nat.le_refl a), ?_⟩
      rw [Vl_s q1 c22]
      show Vl _ a (if h.1 (157, 0) a = nI 0 then v2 else some (h.1 (157, 0) a))
      rw [if_pos c42]
      exact Vl_cp q2
    ·
      refine g_vret dX12_does_45 rfl (by decide) (by decide) ?_
      refine ⟨rfl, Wk.rf a h, ?_⟩
      rw [Vl_s q1 c22]
      show Vl h a (if h.1 (157, 0) a = nI 0 then v2 else some (h.1 (157, 0) a))
      rw [if_neg c42]
      exact ⟨c22, rfl⟩
abbrev WG (E : En) (d : Nat) (Q : Option V → Hp → Prop) (h0 : Hp) (T i a : Nat) (h : Hp) : Prop := G E m_X12_works d 0 0 Q h0 5 [some (vR MO), none, some (vI (nI T)), some (vI (nI a)), some (vI (nI i))] [] h 0 0
set_option maxRecDepth 4000 in
theorem wg_num {E : En} (hok : EOK E) {h h0 : Hp} (hs : Shp h.2) {d : Nat} (hd : 3 ≤ d) {Q : Option V → Hp → Prop} {T i a : Nat} (hT : T ≤ 200) (hi : i < T) (ha : a < 240) (hc : h.1 (135, 0) i = nI 0) (K : WG E d Q h0 T (i + 1) (a + 1) (wI (wI h (158, 0) a 0) (157, 0) a (h.1 (136, 0) i))) : WG E d Q h0 T i (a) h := by
  refine g_iload (pc' := 7) dX12_works_5 rfl rfl ?_
  refine g_iload_n (pc' := 8) dX12_works_7 rfl rfl ?_
  refine g_icmp_geN (tgt := 127) (pc' := 11) dX12_works_8 rfl (by decide) (by omega) (by omega) (fun c8 => ?_) (fun c8 => ?_)
  · exact absurd c8 (by omega)
  ·
    refine g_aload_n (pc' := 12) dX12_works_11 rfl rfl ?_
    refine g_getS (pc' := 15) (k := 35) (b := (135, 0)) dX12_works_12 rfl rfl ck_13 (by decide) fl_X12_93 rfl hs rfl ?_
    refine g_iload (pc' := 17) dX12_works_15 rfl rfl ?_
    refine g_ialdN (pc' := 18) (v := nI 0) dX12_works_17 rfl rfl (by decide) (by omega) (hc) ?_
    refine g_iconstN (n := 2) (pc' := 19) dX12_works_18 rfl ?_
    refine g_icmp_leN (tgt := 42) (pc' := 22) dX12_works_19 rfl (by decide) (by decide) (by decide) (fun _ => ?_) (fun q => False.elim (by revert q; decide))
    refine g_aload_n (pc' := 43) dX12_works_42 rfl rfl ?_
    refine g_getS (pc' := 46) (k := 35) (b := (135, 0)) dX12_works_43 rfl rfl ck_13 (by decide) fl_X12_93 rfl hs rfl ?_
    refine g_iload (pc' := 48) dX12_works_46 rfl rfl ?_
    refine g_ialdN (pc' := 49) (v := nI 0) dX12_works_48 rfl rfl (by decide) (by omega) (hc) ?_
    refine g_iconstN (n := 2) (pc' := 50) dX12_works_49 rfl ?_
    refine g_icmp_neN (tgt := 74) (pc' := 53) dX12_works_50 rfl (by decide) (by decide) (by decide) (fun _ => ?_) (fun q => False.elim (by revert q; decide))
    refine g_aload_n (pc' := 75) dX12_works_74 rfl rfl ?_
    refine g_getS (pc' := 78) (k := 58) (b := (158, 0)) dX12_works_75 rfl rfl ck_13 (by decide) fl_X12_123 rfl hs rfl ?_
    refine g_iload_n (pc' := 79) dX12_works_78 rfl rfl ?_
    refine g_iconstN (n := 0) (pc' := 80) dX12_works_79 rfl ?_
    refine g_zastN (pc' := 81) dX12_works_80 rfl rfl (by decide) (by omega) ?_
    refine g_aload_n (pc' := 82) dX12_works_81 rfl rfl ?_
    refine g_getS (pc' := 85) (k := 57) (b := (157, 0)) dX12_works_82 rfl rfl ck_13 (by decide) fl_X12_120 rfl hs rfl ?_
    refine g_iload_n (pc' := 86) dX12_works_85 rfl rfl ?_
    refine g_aload_n (pc' := 87) dX12_works_86 rfl rfl ?_
    refine g_getS (pc' := 90) (k := 35) (b := (135, 0)) dX12_works_87 rfl rfl ck_13 (by decide) fl_X12_93 rfl hs rfl ?_
    refine g_iload (pc' := 92) dX12_works_90 rfl rfl ?_
    refine g_ialdN (pc' := 93) (v := nI 0) dX12_works_92 rfl rfl (by decide) (by omega) (hc) ?_
    refine g_if_neN (tgt := 106) (pc' := 96) dX12_works_93 rfl (by decide) (by decide) (fun q => False.elim (by revert q; decide)) (fun _ => ?_)
    refine g_aload_n (pc' := 97) dX12_works_96 rfl rfl ?_
    refine g_getS (pc' := 100) (k := 36) (b := (136, 0)) dX12_works_97 rfl rfl ck_13 (by decide) fl_X12_96 rfl hs rfl ?_
    refine g_iload (pc' := 102) dX12_works_100 rfl rfl ?_
    refine g_ialdN (pc' := 103) (v := _) dX12_works_102 rfl rfl (by decide) (by omega) (rfl) ?_
    refine g_goto (tgt := 117) dX12_works_103 (by decide) ?_
    refine g_iastN (pc' := 118) dX12_works_117 rfl rfl (by decide) (by omega) ?_
    refine g_iincN (k := 1) (pc' := 121) dX12_works_118 rfl rfl (by decide) rfl ?_
    try simp only [List.set]
    refine g_iincN (k := 1) (pc' := 124) dX12_works_121 rfl rfl (by decide) rfl ?_
    try simp only [List.set]
    refine g_goto (tgt := 5) dX12_works_124 (by decide) ?_
    exact K
set_option maxRecDepth 4000 in
theorem wg_let {E : En} (hok : EOK E) {h h0 : Hp} (hs : Shp h.2) {d : Nat} (hd : 3 ≤ d) {Q : Option V → Hp → Prop} {T i a : Nat} (hT : T ≤ 200) (hi : i < T) (ha : a < 240) {l : Nat} {x : Int32} (hc : h.1 (135, 0) i = nI 1) (hl : h.1 (136, 0) i = nI l) (hv : Fn E m_X12_valueOf 2 [vR MO, vI (nI l)] (wI h (158, 0) a 0) (vI x)) (K : WG E d Q h0 T (i + 1) (a + 1) (wI (wI h (158, 0) a 0) (157, 0) a x)) : WG E d Q h0 T i (a) h := by
  refine g_iload (pc' := 7) dX12_works_5 rfl rfl ?_
  refine g_iload_n (pc' := 8) dX12_works_7 rfl rfl ?_
  refine g_icmp_geN (tgt := 127) (pc' := 11) dX12_works_8 rfl (by decide) (by omega) (by omega) (fun c8 => ?_) (fun c8 => ?_)
  · exact absurd c8 (by omega)
  ·
    refine g_aload_n (pc' := 12) dX12_works_11 rfl rfl ?_
    refine g_getS (pc' := 15) (k := 35) (b := (135, 0)) dX12_works_12 rfl rfl ck_13 (by decide) fl_X12_93 rfl hs rfl ?_
    refine g_iload (pc' := 17) dX12_works_15 rfl rfl ?_
    refine g_ialdN (pc' := 18) (v := nI 1) dX12_works_17 rfl rfl (by decide) (by omega) (hc) ?_
    refine g_iconstN (n := 2) (pc' := 19) dX12_works_18 rfl ?_
    refine g_icmp_leN (tgt := 42) (pc' := 22) dX12_works_19 rfl (by decide) (by decide) (by decide) (fun _ => ?_) (fun q => False.elim (by revert q; decide))
    refine g_aload_n (pc' := 43) dX12_works_42 rfl rfl ?_
    refine g_getS (pc' := 46) (k := 35) (b := (135, 0)) dX12_works_43 rfl rfl ck_13 (by decide) fl_X12_93 rfl hs rfl ?_
    refine g_iload (pc' := 48) dX12_works_46 rfl rfl ?_
    refine g_ialdN (pc' := 49) (v := nI 1) dX12_works_48 rfl rfl (by decide) (by omega) (hc) ?_
    refine g_iconstN (n := 2) (pc' := 50) dX12_works_49 rfl ?_
    refine g_icmp_neN (tgt := 74) (pc' := 53) dX12_works_50 rfl (by decide) (by decide) (by decide) (fun _ => ?_) (fun q => False.elim (by revert q; decide))
    refine g_aload_n (pc' := 75) dX12_works_74 rfl rfl ?_
    refine g_getS (pc' := 78) (k := 58) (b := (158, 0)) dX12_works_75 rfl rfl ck_13 (by decide) fl_X12_123 rfl hs rfl ?_
    refine g_iload_n (pc' := 79) dX12_works_78 rfl rfl ?_
    refine g_iconstN (n := 0) (pc' := 80) dX12_works_79 rfl ?_
    refine g_zastN (pc' := 81) dX12_works_80 rfl rfl (by decide) (by omega) ?_
    refine g_aload_n (pc' := 82) dX12_works_81 rfl rfl ?_
    refine g_getS (pc' := 85) (k := 57) (b := (157, 0)) dX12_works_82 rfl rfl ck_13 (by decide) fl_X12_120 rfl hs rfl ?_
    refine g_iload_n (pc' := 86) dX12_works_85 rfl rfl ?_
    refine g_aload_n (pc' := 87) dX12_works_86 rfl rfl ?_
    refine g_getS (pc' := 90) (k := 35) (b := (135, 0)) dX12_works_87 rfl rfl ck_13 (by decide) fl_X12_93 rfl hs rfl ?_
    refine g_iload (pc' := 92) dX12_works_90 rfl rfl ?_
    refine g_ialdN (pc' := 93) (v := nI 1) dX12_works_92 rfl rfl (by decide) (by omega) (hc) ?_
    refine g_if_neN (tgt := 106) (pc' := 96) dX12_works_93 rfl (by decide) (by decide) (fun _ => ?_) (fun q => False.elim (by revert q; decide))
    refine g_aload_n (pc' := 107) dX12_works_106 rfl rfl ?_
    refine g_aload_n (pc' := 108) dX12_works_107 rfl rfl ?_
    refine g_getS (pc' := 111) (k := 36) (b := (136, 0)) dX12_works_108 rfl rfl ck_13 (by decide) fl_X12_96 rfl hs rfl ?_
    refine g_iload (pc' := 113) dX12_works_111 rfl rfl ?_
    refine g_ialdN (pc' := 114) (v := nI l) dX12_works_113 rfl rfl (by decide) (by omega) (hl) ?_
    refine g_invV (pc' := 117) (hv) dX12_works_114 rfl rfl ck_13 rfl ml_X12_410 im_X12_valueOf sl_X12_valueOf in_X12 co_X12_valueOf pd_X12_valueOf rfl (by omega) (by decide) ⟨by decide, by decide⟩ (Nat.le_of_ble_eq_true rfl) ?_
    rintro _ _ ⟨rfl, rfl⟩ -
    refine g_iastN (pc' := 118) dX12_works_117 rfl rfl (by decide) (by omega) ?_
    refine g_iincN (k := 1) (pc' := 121) dX12_works_118 rfl rfl (by decide) rfl ?_
    try simp only [List.set]
    refine g_iincN (k := 1) (pc' := 124) dX12_works_121 rfl rfl (by decide) rfl ?_
    try simp only [List.set]
    refine g_goto (tgt := 5) dX12_works_124 (by decide) ?_
    exact K
set_option maxRecDepth 4000 in
theorem wg_not {E : En} (hok : EOK E) {h h0 : Hp} (hs : Shp h.2) {d : Nat} (hd : 3 ≤ d) {Q : Option V → Hp → Prop} {T i a : Nat} (hT : T ≤ 200) (hi : i < T) (ha : a < 240) (hc : h.1 (135, 0) i = nI 2) (K : WG E d Q h0 T (i + 1) (a + 1) (wI h (157, 0) a (nI 1 - h.1 (157, 0) a))) : WG E d Q h0 T i (a + 1) h := by
  refine g_iload (pc' := 7) dX12_works_5 rfl rfl ?_
  refine g_iload_n (pc' := 8) dX12_works_7 rfl rfl ?_
  refine g_icmp_geN (tgt := 127) (pc' := 11) dX12_works_8 rfl (by decide) (by omega) (by omega) (fun c8 => ?_) (fun c8 => ?_)
  · exact absurd c8 (by omega)
  ·
    refine g_aload_n (pc' := 12) dX12_works_11 rfl rfl ?_
    refine g_getS (pc' := 15) (k := 35) (b := (135, 0)) dX12_works_12 rfl rfl ck_13 (by decide) fl_X12_93 rfl hs rfl ?_
    refine g_iload (pc' := 17) dX12_works_15 rfl rfl ?_
    refine g_ialdN (pc' := 18) (v := nI 2) dX12_works_17 rfl rfl (by decide) (by omega) (hc) ?_
    refine g_iconstN (n := 2) (pc' := 19) dX12_works_18 rfl ?_
    refine g_icmp_leN (tgt := 42) (pc' := 22) dX12_works_19 rfl (by decide) (by decide) (by decide) (fun _ => ?_) (fun q => False.elim (by revert q; decide))
    refine g_aload_n (pc' := 43) dX12_works_42 rfl rfl ?_
    refine g_getS (pc' := 46) (k := 35) (b := (135, 0)) dX12_works_43 rfl rfl ck_13 (by decide) fl_X12_93 rfl hs rfl ?_
    refine g_iload (pc' := 48) dX12_works_46 rfl rfl ?_
    refine g_ialdN (pc' := 49) (v := nI 2) dX12_works_48 rfl rfl (by decide) (by omega) (hc) ?_
    refine g_iconstN (n := 2) (pc' := 50) dX12_works_49 rfl ?_
    refine g_icmp_neN (tgt := 74) (pc' := 53) dX12_works_50 rfl (by decide) (by decide) (by decide) (fun q => False.elim (by revert q; decide)) (fun _ => ?_)
    refine g_aload_n (pc' := 54) dX12_works_53 rfl rfl ?_
    refine g_getS (pc' := 57) (k := 57) (b := (157, 0)) dX12_works_54 rfl rfl ck_13 (by decide) fl_X12_120 rfl hs rfl ?_
    refine g_iload_n (pc' := 58) dX12_works_57 rfl rfl ?_
    refine g_iconstN (n := 1) (pc' := 59) dX12_works_58 rfl ?_
    refine g_isubN (pc' := 60) dX12_works_59 rfl (by omega) ?_
    refine g_iconstN (n := 1) (pc' := 61) dX12_works_60 rfl ?_
    refine g_aload_n (pc' := 62) dX12_works_61 rfl rfl ?_
    refine g_getS (pc' := 65) (k := 57) (b := (157, 0)) dX12_works_62 rfl rfl ck_13 (by decide) fl_X12_120 rfl hs rfl ?_
    refine g_iload_n (pc' := 66) dX12_works_65 rfl rfl ?_
    refine g_iconstN (n := 1) (pc' := 67) dX12_works_66 rfl ?_
    refine g_isubN (pc' := 68) dX12_works_67 rfl (by omega) ?_
    refine g_ialdN (pc' := 69) (v := _) dX12_works_68 rfl rfl (by decide) (by omega) (rfl) ?_
    refine g_isub (pc' := 70) dX12_works_69 rfl ?_
    refine g_iastN (pc' := 71) dX12_works_70 rfl rfl (by decide) (by omega) ?_
    refine g_goto (tgt := 121) dX12_works_71 (by decide) ?_
    refine g_iincN (k := 1) (pc' := 124) dX12_works_121 rfl rfl (by decide) rfl ?_
    try simp only [List.set]
    refine g_goto (tgt := 5) dX12_works_124 (by decide) ?_
    exact K
set_option maxRecDepth 4000 in
theorem wg_op_43 {E : En} (hok : EOK E) {h h0 : Hp} (hs : Shp h.2) {d : Nat} (hd : 3 ≤ d) {Q : Option V → Hp → Prop} {T i a : Nat} (hT : T ≤ 200) (hi : i < T) (ha : a + 1 < 240) {D : Hp → Prop} (hc : h.1 (135, 0) i = nI 43) (hD : Call E m_X12_does 1 0 0 [vR MO, vI (nI 43), vI (nI a)] h (fun r h' => r = none ∧ D h')) (K : ∀ h', D h' → WG E d Q h0 T (i + 1) (a + 1) h') : WG E d Q h0 T i (a + 1 + 1) h := by
  refine g_iload (pc' := 7) dX12_works_5 rfl rfl ?_
  refine g_iload_n (pc' := 8) dX12_works_7 rfl rfl ?_
  refine g_icmp_geN (tgt := 127) (pc' := 11) dX12_works_8 rfl (by decide) (by omega) (by omega) (fun c8 => ?_) (fun c8 => ?_)
  · exact absurd c8 (by omega)
  ·
    refine g_aload_n (pc' := 12) dX12_works_11 rfl rfl ?_
    refine g_getS (pc' := 15) (k := 35) (b := (135, 0)) dX12_works_12 rfl rfl ck_13 (by decide) fl_X12_93 rfl hs rfl ?_
    refine g_iload (pc' := 17) dX12_works_15 rfl rfl ?_
    refine g_ialdN (pc' := 18) (v := nI 43) dX12_works_17 rfl rfl (by decide) (by omega) (hc) ?_
    refine g_iconstN (n := 2) (pc' := 19) dX12_works_18 rfl ?_
    refine g_icmp_leN (tgt := 42) (pc' := 22) dX12_works_19 rfl (by decide) (by decide) (by decide) (fun q => False.elim (by revert q; decide)) (fun _ => ?_)
    refine g_iinc (v := nI (a + 1)) (pc' := 25) dX12_works_22 rfl rfl (nI_dec) (by decide) rfl ?_
    try simp only [List.set]
    refine g_aload_n (pc' := 26) dX12_works_25 rfl rfl ?_
    refine g_aload_n (pc' := 27) dX12_works_26 rfl rfl ?_
    refine g_getS (pc' := 30) (k := 35) (b := (135, 0)) dX12_works_27 rfl rfl ck_13 (by decide) fl_X12_93 rfl hs rfl ?_
    refine g_iload (pc' := 32) dX12_works_30 rfl rfl ?_
    refine g_ialdN (pc' := 33) (v := nI 43) dX12_works_32 rfl rfl (by decide) (by omega) (hc) ?_
    refine g_iload_n (pc' := 34) dX12_works_33 rfl rfl ?_
    refine g_iconstN (n := 1) (pc' := 35) dX12_works_34 rfl ?_
    refine g_isubN (pc' := 36) dX12_works_35 rfl (by omega) ?_
    refine g_invV (pc' := 39) (hD) dX12_works_36 rfl rfl ck_13 rfl ml_X12_407 im_X12_does sl_X12_does in_X12 co_X12_does pd_X12_does rfl (by omega) (by decide) ⟨by decide, by decide⟩ (Nat.le_of_ble_eq_true rfl) ?_
    rintro _ h' ⟨rfl, hD'⟩ -
    refine g_goto (tgt := 121) dX12_works_39 (by decide) ?_
    refine g_iincN (k := 1) (pc' := 124) dX12_works_121 rfl rfl (by decide) rfl ?_
    try simp only [List.set]
    refine g_goto (tgt := 5) dX12_works_124 (by decide) ?_
    exact K h' hD'
set_option maxRecDepth 4000 in
theorem wg_op_45 {E : En} (hok : EOK E) {h h0 : Hp} (hs : Shp h.2) {d : Nat} (hd : 3 ≤ d) {Q : Option V → Hp → Prop} {T i a : Nat} (hT : T ≤ 200) (hi : i < T) (ha : a + 1 < 240) {D : Hp → Prop} (hc : h.1 (135, 0) i = nI 45) (hD : Call E m_X12_does 1 0 0 [vR MO, vI (nI 45), vI (nI a)] h (fun r h' => r = none ∧ D h')) (K : ∀ h', D h' → WG E d Q h0 T (i + 1) (a + 1) h') : WG E d Q h0 T i (a + 1 + 1) h := by
  refine g_iload (pc' := 7) dX12_works_5 rfl rfl ?_
  refine g_iload_n (pc' := 8) dX12_works_7 rfl rfl ?_
  refine g_icmp_geN (tgt := 127) (pc' := 11) dX12_works_8 rfl (by decide) (by omega) (by omega) (fun c8 => ?_) (fun c8 => ?_)
  · exact absurd c8 (by omega)
  ·
    refine g_aload_n (pc' := 12) dX12_works_11 rfl rfl ?_
    refine g_getS (pc' := 15) (k := 35) (b := (135, 0)) dX12_works_12 rfl rfl ck_13 (by decide) fl_X12_93 rfl hs rfl ?_
    refine g_iload (pc' := 17) dX12_works_15 rfl rfl ?_
    refine g_ialdN (pc' := 18) (v := nI 45) dX12_works_17 rfl rfl (by decide) (by omega) (hc) ?_
    refine g_iconstN (n := 2) (pc' := 19) dX12_works_18 rfl ?_
    refine g_icmp_leN (tgt := 42) (pc' := 22) dX12_works_19 rfl (by decide) (by decide) (by decide) (fun q => False.elim (by revert q; decide)) (fun _ => ?_)
    refine g_iinc (v := nI (a + 1)) (pc' := 25) dX12_works_22 rfl rfl (nI_dec) (by decide) rfl ?_
    try simp only [List.set]
    refine g_aload_n (pc' := 26) dX12_works_25 rfl rfl ?_
    refine g_aload_n (pc' := 27) dX12_works_26 rfl rfl ?_
    refine g_getS (pc' := 30) (k := 35) (b := (135, 0)) dX12_works_27 rfl rfl ck_13 (by decide) fl_X12_93 rfl hs rfl ?_
    refine g_iload (pc' := 32) dX12_works_30 rfl rfl ?_
    refine g_ialdN (pc' := 33) (v := nI 45) dX12_works_32 rfl rfl (by decide) (by omega) (hc) ?_
    refine g_iload_n (pc' := 34) dX12_works_33 rfl rfl ?_
    refine g_iconstN (n := 1) (pc' := 35) dX12_works_34 rfl ?_
    refine g_isubN (pc' := 36) dX12_works_35 rfl (by omega) ?_
    refine g_invV (pc' := 39) (hD) dX12_works_36 rfl rfl ck_13 rfl ml_X12_407 im_X12_does sl_X12_does in_X12 co_X12_does pd_X12_does rfl (by omega) (by decide) ⟨by decide, by decide⟩ (Nat.le_of_ble_eq_true rfl) ?_
    rintro _ h' ⟨rfl, hD'⟩ -
    refine g_goto (tgt := 121) dX12_works_39 (by decide) ?_
    refine g_iincN (k := 1) (pc' := 124) dX12_works_121 rfl rfl (by decide) rfl ?_
    try simp only [List.set]
    refine g_goto (tgt := 5) dX12_works_124 (by decide) ?_
    exact K h' hD'
set_option maxRecDepth 4000 in
theorem wg_op_42 {E : En} (hok : EOK E) {h h0 : Hp} (hs : Shp h.2) {d : Nat} (hd : 3 ≤ d) {Q : Option V → Hp → Prop} {T i a : Nat} (hT : T ≤ 200) (hi : i < T) (ha : a + 1 < 240) {D : Hp → Prop} (hc : h.1 (135, 0) i = nI 42) (hD : Call E m_X12_does 1 0 0 [vR MO, vI (nI 42), vI (nI a)] h (fun r h' => r = none ∧ D h')) (K : ∀ h', D h' → WG E d Q h0 T (i + 1) (a + 1) h') : WG E d Q h0 T i (a + 1 + 1) h := by
  refine g_iload (pc' := 7) dX12_works_5 rfl rfl ?_
  refine g_iload_n (pc' := 8) dX12_works_7 rfl rfl ?_
  refine g_icmp_geN (tgt := 127) (pc' := 11) dX12_works_8 rfl (by decide) (by omega) (by omega) (fun c8 => ?_) (fun c8 => ?_)
  · exact absurd c8 (by omega)
  ·
    refine g_aload_n (pc' := 12) dX12_works_11 rfl rfl ?_
    refine g_getS (pc' := 15) (k := 35) (b := (135, 0)) dX12_works_12 rfl rfl ck_13 (by decide) fl_X12_93 rfl hs rfl ?_
    refine g_iload (pc' := 17) dX12_works_15 rfl rfl ?_
    refine g_ialdN (pc' := 18) (v := nI 42) dX12_works_17 rfl rfl (by decide) (by omega) (hc) ?_
    refine g_iconstN (n := 2) (pc' := 19) dX12_works_18 rfl ?_
    refine g_icmp_leN (tgt := 42) (pc' := 22) dX12_works_19 rfl (by decide) (by decide) (by decide) (fun q => False.elim (by revert q; decide)) (fun _ => ?_)
    refine g_iinc (v := nI (a + 1)) (pc' := 25) dX12_works_22 rfl rfl (nI_dec) (by decide) rfl ?_
    try simp only [List.set]
    refine g_aload_n (pc' := 26) dX12_works_25 rfl rfl ?_
    refine g_aload_n (pc' := 27) dX12_works_26 rfl rfl ?_
    refine g_getS (pc' := 30) (k := 35) (b := (135, 0)) dX12_works_27 rfl rfl ck_13 (by decide) fl_X12_93 rfl hs rfl ?_
    refine g_iload (pc' := 32) dX12_works_30 rfl rfl ?_
    refine g_ialdN (pc' := 33) (v := nI 42) dX12_works_32 rfl rfl (by decide) (by omega) (hc) ?_
    refine g_iload_n (pc' := 34) dX12_works_33 rfl rfl ?_
    refine g_iconstN (n := 1) (pc' := 35) dX12_works_34 rfl ?_
    refine g_isubN (pc' := 36) dX12_works_35 rfl (by omega) ?_
    refine g_invV (pc' := 39) (hD) dX12_works_36 rfl rfl ck_13 rfl ml_X12_407 im_X12_does sl_X12_does in_X12 co_X12_does pd_X12_does rfl (by omega) (by decide) ⟨by decide, by decide⟩ (Nat.le_of_ble_eq_true rfl) ?_
    rintro _ h' ⟨rfl, hD'⟩ -
    refine g_goto (tgt := 121) dX12_works_39 (by decide) ?_
    refine g_iincN (k := 1) (pc' := 124) dX12_works_121 rfl rfl (by decide) rfl ?_
    try simp only [List.set]
    refine g_goto (tgt := 5) dX12_works_124 (by decide) ?_
    exact K h' hD'
set_option maxRecDepth 4000 in
theorem wg_op_47 {E : En} (hok : EOK E) {h h0 : Hp} (hs : Shp h.2) {d : Nat} (hd : 3 ≤ d) {Q : Option V → Hp → Prop} {T i a : Nat} (hT : T ≤ 200) (hi : i < T) (ha : a + 1 < 240) {D : Hp → Prop} (hc : h.1 (135, 0) i = nI 47) (hD : Call E m_X12_does 1 0 0 [vR MO, vI (nI 47), vI (nI a)] h (fun r h' => r = none ∧ D h')) (K : ∀ h', D h' → WG E d Q h0 T (i + 1) (a + 1) h') : WG E d Q h0 T i (a + 1 + 1) h := by
  refine g_iload (pc' := 7) dX12_works_5 rfl rfl ?_
  refine g_iload_n (pc' := 8) dX12_works_7 rfl rfl ?_
  refine g_icmp_geN (tgt := 127) (pc' := 11) dX12_works_8 rfl (by decide) (by omega) (by omega) (fun c8 => ?_) (fun c8 => ?_)
  · exact absurd c8 (by omega)
  ·
    refine g_aload_n (pc' := 12) dX12_works_11 rfl rfl ?_
    refine g_getS (pc' := 15) (k := 35) (b := (135, 0)) dX12_works_12 rfl rfl ck_13 (by decide) fl_X12_93 rfl hs rfl ?_
    refine g_iload (pc' := 17) dX12_works_15 rfl rfl ?_
    refine g_ialdN (pc' := 18) (v := nI 47) dX12_works_17 rfl rfl (by decide) (by omega) (hc) ?_
    refine g_iconstN (n := 2) (pc' := 19) dX12_works_18 rfl ?_
    refine g_icmp_leN (tgt := 42) (pc' := 22) dX12_works_19 rfl (by decide) (by decide) (by decide) (fun q => False.elim (by revert q; decide)) (fun _ => ?_)
    refine g_iinc (v := nI (a + 1)) (pc' := 25) dX12_works_22 rfl rfl (nI_dec) (by decide) rfl ?_
    try simp only [List.set]
    refine g_aload_n (pc' := 26) dX12_works_25 rfl rfl ?_
    refine g_aload_n (pc' := 27) dX12_works_26 rfl rfl ?_
    refine g_getS (pc' := 30) (k := 35) (b := (135, 0)) dX12_works_27 rfl rfl ck_13 (by decide) fl_X12_93 rfl hs rfl ?_
    refine g_iload (pc' := 32) dX12_works_30 rfl rfl ?_
    refine g_ialdN (pc' := 33) (v := nI 47) dX12_works_32 rfl rfl (by decide) (by omega) (hc) ?_
    refine g_iload_n (pc' := 34) dX12_works_33 rfl rfl ?_
    refine g_iconstN (n := 1) (pc' := 35) dX12_works_34 rfl ?_
    refine g_isubN (pc' := 36) dX12_works_35 rfl (by omega) ?_
    refine g_invV (pc' := 39) (hD) dX12_works_36 rfl rfl ck_13 rfl ml_X12_407 im_X12_does sl_X12_does in_X12 co_X12_does pd_X12_does rfl (by omega) (by decide) ⟨by decide, by decide⟩ (Nat.le_of_ble_eq_true rfl) ?_
    rintro _ h' ⟨rfl, hD'⟩ -
    refine g_goto (tgt := 121) dX12_works_39 (by decide) ?_
    refine g_iincN (k := 1) (pc' := 124) dX12_works_121 rfl rfl (by decide) rfl ?_
    try simp only [List.set]
    refine g_goto (tgt := 5) dX12_works_124 (by decide) ?_
    exact K h' hD'
set_option maxRecDepth 4000 in
theorem wg_op_37 {E : En} (hok : EOK E) {h h0 : Hp} (hs : Shp h.2) {d : Nat} (hd : 3 ≤ d) {Q : Option V → Hp → Prop} {T i a : Nat} (hT : T ≤ 200) (hi : i < T) (ha : a + 1 < 240) {D : Hp → Prop} (hc : h.1 (135, 0) i = nI 37) (hD : Call E m_X12_does 1 0 0 [vR MO, vI (nI 37), vI (nI a)] h (fun r h' => r = none ∧ D h')) (K : ∀ h', D h' → WG E d Q h0 T (i + 1) (a + 1) h') : WG E d Q h0 T i (a + 1 + 1) h := by
  refine g_iload (pc' := 7) dX12_works_5 rfl rfl ?_
  refine g_iload_n (pc' := 8) dX12_works_7 rfl rfl ?_
  refine g_icmp_geN (tgt := 127) (pc' := 11) dX12_works_8 rfl (by decide) (by omega) (by omega) (fun c8 => ?_) (fun c8 => ?_)
  · exact absurd c8 (by omega)
  ·
    refine g_aload_n (pc' := 12) dX12_works_11 rfl rfl ?_
    refine g_getS (pc' := 15) (k := 35) (b := (135, 0)) dX12_works_12 rfl rfl ck_13 (by decide) fl_X12_93 rfl hs rfl ?_
    refine g_iload (pc' := 17) dX12_works_15 rfl rfl ?_
    refine g_ialdN (pc' := 18) (v := nI 37) dX12_works_17 rfl rfl (by decide) (by omega) (hc) ?_
    refine g_iconstN (n := 2) (pc' := 19) dX12_works_18 rfl ?_
    refine g_icmp_leN (tgt := 42) (pc' := 22) dX12_works_19 rfl (by decide) (by decide) (by decide) (fun q => False.elim (by revert q; decide)) (fun _ => ?_)
    refine g_iinc (v := nI (a + 1)) (pc' := 25) dX12_works_22 rfl rfl (nI_dec) (by decide) rfl ?_
    try simp only [List.set]
    refine g_aload_n (pc' := 26) dX12_works_25 rfl rfl ?_
    refine g_aload_n (pc' := 27) dX12_works_26 rfl rfl ?_
    refine g_getS (pc' := 30) (k := 35) (b := (135, 0)) dX12_works_27 rfl rfl ck_13 (by decide) fl_X12_93 rfl hs rfl ?_
    refine g_iload (pc' := 32) dX12_works_30 rfl rfl ?_
    refine g_ialdN (pc' := 33) (v := nI 37) dX12_works_32 rfl rfl (by decide) (by omega) (hc) ?_
    refine g_iload_n (pc' := 34) dX12_works_33 rfl rfl ?_
    refine g_iconstN (n := 1) (pc' := 35) dX12_works_34 rfl ?_
    refine g_isubN (pc' := 36) dX12_works_35 rfl (by omega) ?_
    refine g_invV (pc' := 39) (hD) dX12_works_36 rfl rfl ck_13 rfl ml_X12_407 im_X12_does sl_X12_does in_X12 co_X12_does pd_X12_does rfl (by omega) (by decide) ⟨by decide, by decide⟩ (Nat.le_of_ble_eq_true rfl) ?_
    rintro _ h' ⟨rfl, hD'⟩ -
    refine g_goto (tgt := 121) dX12_works_39 (by decide) ?_
    refine g_iincN (k := 1) (pc' := 124) dX12_works_121 rfl rfl (by decide) rfl ?_
    try simp only [List.set]
    refine g_goto (tgt := 5) dX12_works_124 (by decide) ?_
    exact K h' hD'
set_option maxRecDepth 4000 in
theorem wg_op_60 {E : En} (hok : EOK E) {h h0 : Hp} (hs : Shp h.2) {d : Nat} (hd : 3 ≤ d) {Q : Option V → Hp → Prop} {T i a : Nat} (hT : T ≤ 200) (hi : i < T) (ha : a + 1 < 240) {D : Hp → Prop} (hc : h.1 (135, 0) i = nI 60) (hD : Call E m_X12_does 1 0 0 [vR MO, vI (nI 60), vI (nI a)] h (fun r h' => r = none ∧ D h')) (K : ∀ h', D h' → WG E d Q h0 T (i + 1) (a + 1) h') : WG E d Q h0 T i (a + 1 + 1) h := by
  refine g_iload (pc' := 7) dX12_works_5 rfl rfl ?_
  refine g_iload_n (pc' := 8) dX12_works_7 rfl rfl ?_
  refine g_icmp_geN (tgt := 127) (pc' := 11) dX12_works_8 rfl (by decide) (by omega) (by omega) (fun c8 => ?_) (fun c8 => ?_)
  · exact absurd c8 (by omega)
  ·
    refine g_aload_n (pc' := 12) dX12_works_11 rfl rfl ?_
    refine g_getS (pc' := 15) (k := 35) (b := (135, 0)) dX12_works_12 rfl rfl ck_13 (by decide) fl_X12_93 rfl hs rfl ?_
    refine g_iload (pc' := 17) dX12_works_15 rfl rfl ?_
    refine g_ialdN (pc' := 18) (v := nI 60) dX12_works_17 rfl rfl (by decide) (by omega) (hc) ?_
    refine g_iconstN (n := 2) (pc' := 19) dX12_works_18 rfl ?_
    refine g_icmp_leN (tgt := 42) (pc' := 22) dX12_works_19 rfl (by decide) (by decide) (by decide) (fun q => False.elim (by revert q; decide)) (fun _ => ?_)
    refine g_iinc (v := nI (a + 1)) (pc' := 25) dX12_works_22 rfl rfl (nI_dec) (by decide) rfl ?_
    try simp only [List.set]
    refine g_aload_n (pc' := 26) dX12_works_25 rfl rfl ?_
    refine g_aload_n (pc' := 27) dX12_works_26 rfl rfl ?_
    refine g_getS (pc' := 30) (k := 35) (b := (135, 0)) dX12_works_27 rfl rfl ck_13 (by decide) fl_X12_93 rfl hs rfl ?_
    refine g_iload (pc' := 32) dX12_works_30 rfl rfl ?_
    refine g_ialdN (pc' := 33) (v := nI 60) dX12_works_32 rfl rfl (by decide) (by omega) (hc) ?_
    refine g_iload_n (pc' := 34) dX12_works_33 rfl rfl ?_
    refine g_iconstN (n := 1) (pc' := 35) dX12_works_34 rfl ?_
    refine g_isubN (pc' := 36) dX12_works_35 rfl (by omega) ?_
    refine g_invV (pc' := 39) (hD) dX12_works_36 rfl rfl ck_13 rfl ml_X12_407 im_X12_does sl_X12_does in_X12 co_X12_does pd_X12_does rfl (by omega) (by decide) ⟨by decide, by decide⟩ (Nat.le_of_ble_eq_true rfl) ?_
    rintro _ h' ⟨rfl, hD'⟩ -
    refine g_goto (tgt := 121) dX12_works_39 (by decide) ?_
    refine g_iincN (k := 1) (pc' := 124) dX12_works_121 rfl rfl (by decide) rfl ?_
    try simp only [List.set]
    refine g_goto (tgt := 5) dX12_works_124 (by decide) ?_
    exact K h' hD'
set_option maxRecDepth 4000 in
theorem wg_op_62 {E : En} (hok : EOK E) {h h0 : Hp} (hs : Shp h.2) {d : Nat} (hd : 3 ≤ d) {Q : Option V → Hp → Prop} {T i a : Nat} (hT : T ≤ 200) (hi : i < T) (ha : a + 1 < 240) {D : Hp → Prop} (hc : h.1 (135, 0) i = nI 62) (hD : Call E m_X12_does 1 0 0 [vR MO, vI (nI 62), vI (nI a)] h (fun r h' => r = none ∧ D h')) (K : ∀ h', D h' → WG E d Q h0 T (i + 1) (a + 1) h') : WG E d Q h0 T i (a + 1 + 1) h := by
  refine g_iload (pc' := 7) dX12_works_5 rfl rfl ?_
  refine g_iload_n (pc' := 8) dX12_works_7 rfl rfl ?_
  refine g_icmp_geN (tgt := 127) (pc' := 11) dX12_works_8 rfl (by decide) (by omega) (by omega) (fun c8 => ?_) (fun c8 => ?_)
  · exact absurd c8 (by omega)
  ·
    refine g_aload_n (pc' := 12) dX12_works_11 rfl rfl ?_
    refine g_getS (pc' := 15) (k := 35) (b := (135, 0)) dX12_works_12 rfl rfl ck_13 (by decide) fl_X12_93 rfl hs rfl ?_
    refine g_iload (pc' := 17) dX12_works_15 rfl rfl ?_
    refine g_ialdN (pc' := 18) (v := nI 62) dX12_works_17 rfl rfl (by decide) (by omega) (hc) ?_
    refine g_iconstN (n := 2) (pc' := 19) dX12_works_18 rfl ?_
    refine g_icmp_leN (tgt := 42) (pc' := 22) dX12_works_19 rfl (by decide) (by decide) (by decide) (fun q => False.elim (by revert q; decide)) (fun _ => ?_)
    refine g_iinc (v := nI (a + 1)) (pc' := 25) dX12_works_22 rfl rfl (nI_dec) (by decide) rfl ?_
    try simp only [List.set]
    refine g_aload_n (pc' := 26) dX12_works_25 rfl rfl ?_
    refine g_aload_n (pc' := 27) dX12_works_26 rfl rfl ?_
    refine g_getS (pc' := 30) (k := 35) (b := (135, 0)) dX12_works_27 rfl rfl ck_13 (by decide) fl_X12_93 rfl hs rfl ?_
    refine g_iload (pc' := 32) dX12_works_30 rfl rfl ?_
    refine g_ialdN (pc' := 33) (v := nI 62) dX12_works_32 rfl rfl (by decide) (by omega) (hc) ?_
    refine g_iload_n (pc' := 34) dX12_works_33 rfl rfl ?_
    refine g_iconstN (n := 1) (pc' := 35) dX12_works_34 rfl ?_
    refine g_isubN (pc' := 36) dX12_works_35 rfl (by omega) ?_
    refine g_invV (pc' := 39) (hD) dX12_works_36 rfl rfl ck_13 rfl ml_X12_407 im_X12_does sl_X12_does in_X12 co_X12_does pd_X12_does rfl (by omega) (by decide) ⟨by decide, by decide⟩ (Nat.le_of_ble_eq_true rfl) ?_
    rintro _ h' ⟨rfl, hD'⟩ -
    refine g_goto (tgt := 121) dX12_works_39 (by decide) ?_
    refine g_iincN (k := 1) (pc' := 124) dX12_works_121 rfl rfl (by decide) rfl ?_
    try simp only [List.set]
    refine g_goto (tgt := 5) dX12_works_124 (by decide) ?_
    exact K h' hD'
set_option maxRecDepth 4000 in
theorem wg_op_61 {E : En} (hok : EOK E) {h h0 : Hp} (hs : Shp h.2) {d : Nat} (hd : 3 ≤ d) {Q : Option V → Hp → Prop} {T i a : Nat} (hT : T ≤ 200) (hi : i < T) (ha : a + 1 < 240) {D : Hp → Prop} (hc : h.1 (135, 0) i = nI 61) (hD : Call E m_X12_does 1 0 0 [vR MO, vI (nI 61), vI (nI a)] h (fun r h' => r = none ∧ D h')) (K : ∀ h', D h' → WG E d Q h0 T (i + 1) (a + 1) h') : WG E d Q h0 T i (a + 1 + 1) h := by
  refine g_iload (pc' := 7) dX12_works_5 rfl rfl ?_
  refine g_iload_n (pc' := 8) dX12_works_7 rfl rfl ?_
  refine g_icmp_geN (tgt := 127) (pc' := 11) dX12_works_8 rfl (by decide) (by omega) (by omega) (fun c8 => ?_) (fun c8 => ?_)
  · exact absurd c8 (by omega)
  ·
    refine g_aload_n (pc' := 12) dX12_works_11 rfl rfl ?_
    refine g_getS (pc' := 15) (k := 35) (b := (135, 0)) dX12_works_12 rfl rfl ck_13 (by decide) fl_X12_93 rfl hs rfl ?_
    refine g_iload (pc' := 17) dX12_works_15 rfl rfl ?_
    refine g_ialdN (pc' := 18) (v := nI 61) dX12_works_17 rfl rfl (by decide) (by omega) (hc) ?_
    refine g_iconstN (n := 2) (pc' := 19) dX12_works_18 rfl ?_
    refine g_icmp_leN (tgt := 42) (pc' := 22) dX12_works_19 rfl (by decide) (by decide) (by decide) (fun q => False.elim (by revert q; decide)) (fun _ => ?_)
    refine g_iinc (v := nI (a + 1)) (pc' := 25) dX12_works_22 rfl rfl (nI_dec) (by decide) rfl ?_
    try simp only [List.set]
    refine g_aload_n (pc' := 26) dX12_works_25 rfl rfl ?_
    refine g_aload_n (pc' := 27) dX12_works_26 rfl rfl ?_
    refine g_getS (pc' := 30) (k := 35) (b := (135, 0)) dX12_works_27 rfl rfl ck_13 (by decide) fl_X12_93 rfl hs rfl ?_
    refine g_iload (pc' := 32) dX12_works_30 rfl rfl ?_
    refine g_ialdN (pc' := 33) (v := nI 61) dX12_works_32 rfl rfl (by decide) (by omega) (hc) ?_
    refine g_iload_n (pc' := 34) dX12_works_33 rfl rfl ?_
    refine g_iconstN (n := 1) (pc' := 35) dX12_works_34 rfl ?_
    refine g_isubN (pc' := 36) dX12_works_35 rfl (by omega) ?_
    refine g_invV (pc' := 39) (hD) dX12_works_36 rfl rfl ck_13 rfl ml_X12_407 im_X12_does sl_X12_does in_X12 co_X12_does pd_X12_does rfl (by omega) (by decide) ⟨by decide, by decide⟩ (Nat.le_of_ble_eq_true rfl) ?_
    rintro _ h' ⟨rfl, hD'⟩ -
    refine g_goto (tgt := 121) dX12_works_39 (by decide) ?_
    refine g_iincN (k := 1) (pc' := 124) dX12_works_121 rfl rfl (by decide) rfl ?_
    try simp only [List.set]
    refine g_goto (tgt := 5) dX12_works_124 (by decide) ?_
    exact K h' hD'
set_option maxRecDepth 4000 in
theorem wg_op_38 {E : En} (hok : EOK E) {h h0 : Hp} (hs : Shp h.2) {d : Nat} (hd : 3 ≤ d) {Q : Option V → Hp → Prop} {T i a : Nat} (hT : T ≤ 200) (hi : i < T) (ha : a + 1 < 240) {D : Hp → Prop} (hc : h.1 (135, 0) i = nI 38) (hD : Call E m_X12_does 1 0 0 [vR MO, vI (nI 38), vI (nI a)] h (fun r h' => r = none ∧ D h')) (K : ∀ h', D h' → WG E d Q h0 T (i + 1) (a + 1) h') : WG E d Q h0 T i (a + 1 + 1) h := by
  refine g_iload (pc' := 7) dX12_works_5 rfl rfl ?_
  refine g_iload_n (pc' := 8) dX12_works_7 rfl rfl ?_
  refine g_icmp_geN (tgt := 127) (pc' := 11) dX12_works_8 rfl (by decide) (by omega) (by omega) (fun c8 => ?_) (fun c8 => ?_)
  · exact absurd c8 (by omega)
  ·
    refine g_aload_n (pc' := 12) dX12_works_11 rfl rfl ?_
    refine g_getS (pc' := 15) (k := 35) (b := (135, 0)) dX12_works_12 rfl rfl ck_13 (by decide) fl_X12_93 rfl hs rfl ?_
    refine g_iload (pc' := 17) dX12_works_15 rfl rfl ?_
    refine g_ialdN (pc' := 18) (v := nI 38) dX12_works_17 rfl rfl (by decide) (by omega) (hc) ?_
    refine g_iconstN (n := 2) (pc' := 19) dX12_works_18 rfl ?_
    refine g_icmp_leN (tgt := 42) (pc' := 22) dX12_works_19 rfl (by decide) (by decide) (by decide) (fun q => False.elim (by revert q; decide)) (fun _ => ?_)
    refine g_iinc (v := nI (a + 1)) (pc' := 25) dX12_works_22 rfl rfl (nI_dec) (by decide) rfl ?_
    try simp only [List.set]
    refine g_aload_n (pc' := 26) dX12_works_25 rfl rfl ?_
    refine g_aload_n (pc' := 27) dX12_works_26 rfl rfl ?_
    refine g_getS (pc' := 30) (k := 35) (b := (135, 0)) dX12_works_27 rfl rfl ck_13 (by decide) fl_X12_93 rfl hs rfl ?_
    refine g_iload (pc' := 32) dX12_works_30 rfl rfl ?_
    refine g_ialdN (pc' := 33) (v := nI 38) dX12_works_32 rfl rfl (by decide) (by omega) (hc) ?_
    refine g_iload_n (pc' := 34) dX12_works_33 rfl rfl ?_
    refine g_iconstN (n := 1) (pc' := 35) dX12_works_34 rfl ?_
    refine g_isubN (pc' := 36) dX12_works_35 rfl (by omega) ?_
    refine g_invV (pc' := 39) (hD) dX12_works_36 rfl rfl ck_13 rfl ml_X12_407 im_X12_does sl_X12_does in_X12 co_X12_does pd_X12_does rfl (by omega) (by decide) ⟨by decide, by decide⟩ (Nat.le_of_ble_eq_true rfl) ?_
    rintro _ h' ⟨rfl, hD'⟩ -
    refine g_goto (tgt := 121) dX12_works_39 (by decide) ?_
    refine g_iincN (k := 1) (pc' := 124) dX12_works_121 rfl rfl (by decide) rfl ?_
    try simp only [List.set]
    refine g_goto (tgt := 5) dX12_works_124 (by decide) ?_
    exact K h' hD'
set_option maxRecDepth 4000 in
theorem wg_op_124 {E : En} (hok : EOK E) {h h0 : Hp} (hs : Shp h.2) {d : Nat} (hd : 3 ≤ d) {Q : Option V → Hp → Prop} {T i a : Nat} (hT : T ≤ 200) (hi : i < T) (ha : a + 1 < 240) {D : Hp → Prop} (hc : h.1 (135, 0) i = nI 124) (hD : Call E m_X12_does 1 0 0 [vR MO, vI (nI 124), vI (nI a)] h (fun r h' => r = none ∧ D h')) (K : ∀ h', D h' → WG E d Q h0 T (i + 1) (a + 1) h') : WG E d Q h0 T i (a + 1 + 1) h := by
  refine g_iload (pc' := 7) dX12_works_5 rfl rfl ?_
  refine g_iload_n (pc' := 8) dX12_works_7 rfl rfl ?_
  refine g_icmp_geN (tgt := 127) (pc' := 11) dX12_works_8 rfl (by decide) (by omega) (by omega) (fun c8 => ?_) (fun c8 => ?_)
  · exact absurd c8 (by omega)
  ·
    refine g_aload_n (pc' := 12) dX12_works_11 rfl rfl ?_
    refine g_getS (pc' := 15) (k := 35) (b := (135, 0)) dX12_works_12 rfl rfl ck_13 (by decide) fl_X12_93 rfl hs rfl ?_
    refine g_iload (pc' := 17) dX12_works_15 rfl rfl ?_
    refine g_ialdN (pc' := 18) (v := nI 124) dX12_works_17 rfl rfl (by decide) (by omega) (hc) ?_
    refine g_iconstN (n := 2) (pc' := 19) dX12_works_18 rfl ?_
    refine g_icmp_leN (tgt := 42) (pc' := 22) dX12_works_19 rfl (by decide) (by decide) (by decide) (fun q => False.elim (by revert q; decide)) (fun _ => ?_)
    refine g_iinc (v := nI (a + 1)) (pc' := 25) dX12_works_22 rfl rfl (nI_dec) (by decide) rfl ?_
    try simp only [List.set]
    refine g_aload_n (pc' := 26) dX12_works_25 rfl rfl ?_
    refine g_aload_n (pc' := 27) dX12_works_26 rfl rfl ?_
    refine g_getS (pc' := 30) (k := 35) (b := (135, 0)) dX12_works_27 rfl rfl ck_13 (by decide) fl_X12_93 rfl hs rfl ?_
    refine g_iload (pc' := 32) dX12_works_30 rfl rfl ?_
    refine g_ialdN (pc' := 33) (v := nI 124) dX12_works_32 rfl rfl (by decide) (by omega) (hc) ?_
    refine g_iload_n (pc' := 34) dX12_works_33 rfl rfl ?_
    refine g_iconstN (n := 1) (pc' := 35) dX12_works_34 rfl ?_
    refine g_isubN (pc' := 36) dX12_works_35 rfl (by omega) ?_
    refine g_invV (pc' := 39) (hD) dX12_works_36 rfl rfl ck_13 rfl ml_X12_407 im_X12_does sl_X12_does in_X12 co_X12_does pd_X12_does rfl (by omega) (by decide) ⟨by decide, by decide⟩ (Nat.le_of_ble_eq_true rfl) ?_
    rintro _ h' ⟨rfl, hD'⟩ -
    refine g_goto (tgt := 121) dX12_works_39 (by decide) ?_
    refine g_iincN (k := 1) (pc' := 124) dX12_works_121 rfl rfl (by decide) rfl ?_
    try simp only [List.set]
    refine g_goto (tgt := 5) dX12_works_124 (by decide) ?_
    exact K h' hD'
