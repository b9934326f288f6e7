/-! the class reads clauses -/
theorem isV_hrc {b : Nat → Nat} {n p : Nat} (hb : HB b n) : isV (hrc b n p) ↔ isVn (b p) := by
  unfold isV isVn
  rw [hrc_eq hb (by decide) (by decide), hrc_eq hb (by decide) (by decide), hrc_eq hb (by decide) (by decide), hrc_eq hb (by decide) (by decide)]
theorem isV_n {c : Nat} (hc : c < 256) : isV (nI c) ↔ isVn c := by
  unfold isV isVn
  rw [nI_eq (by omega) (by omega), nI_eq (by omega) (by omega), nI_eq (by omega) (by omega), nI_eq (by omega) (by omega)]
def isW (x : Int32) : Prop := x = nI 97 ∨ x = nI 119 ∨ x = nI 111 ∨ x = nI 117
theorem isW_hrc {b : Nat → Nat} {n p : Nat} (hb : HB b n) : isW (hrc b n p) ↔ isNv (b p) := by
  unfold isW isNv
  rw [hrc_eq hb (by decide) (by decide), hrc_eq hb (by decide) (by decide), hrc_eq hb (by decide) (by decide), hrc_eq hb (by decide) (by decide)]
theorem TC.w {b : Nat → Nat} {n i j : Nat} {a : Ad} {x : Int32} {h : Hp} (t : TC b n i h) (h1 : a.1 ≠ 20) (h2 : a.1 = 6 → j ≠ 7) : TC b n i (wI h a j x) := by
  refine ⟨t.1, t.2.1, ?_, fun q hq => ?_, t.2.2.2.2⟩
  · rw [wI_at, if_neg (fun z => h2 (by rw [← z.1]) z.2.symm)]
    exact t.2.2.1
  · rw [wI_at, if_neg (fun z => h1 (by rw [← z.1]))]
    exact t.2.2.2.1 q hq
/-- only the text's own cells changed -/
def tx (s : Nat) : Prop := s = 6 ∨ 35 ≤ s ∧ s ≤ 40
def KR (i : Nat) (h h' : Hp) : Prop := h'.2 = h.2 ∧ ∀ a : Ad, a.2 ≠ i ∨ ¬ tx a.1 → h'.1 a = h.1 a
theorem KR.rf (i : Nat) (h : Hp) : KR i h h := ⟨rfl, fun _ _ => rfl⟩
theorem KR.tr {i : Nat} {h h1 h2 : Hp} (x : KR i h h1) (y : KR i h1 h2) : KR i h h2 := ⟨y.1.trans x.1, fun a q => (y.2 a q).trans (x.2 a q)⟩
theorem KR.w {i s j : Nat} {x : Int32} {h h1 : Hp} (k : KR i h h1) (hs : tx s) : KR i h (wI h1 (s, i) j x) := ⟨k.1, fun a q => (wI_off _ _ _ _ a (fun z => by
  rw [z] at q
  rcases q with q | q
  · exact q rfl
  · exact q hs)).trans (k.2 a q)⟩
theorem KT.kr {i s : Nat} {h h1 : Hp} (k : KT i s h h1) : KR i h h1 := ⟨k.1, fun a q => k.2.1 a (fun z => by
  rw [z] at q
  rcases q with q | q
  · exact q rfl
  · exact q (Or.inl rfl)) (fun z => by
  rw [z] at q
  rcases q with q | q
  · exact q rfl
  · exact q (Or.inr ⟨by show 35 ≤ 35; decide, by show 35 ≤ 40; decide⟩)) (fun z => by
  rw [z] at q
  rcases q with q | q
  · exact q rfl
  · exact q (Or.inr ⟨by show 35 ≤ 36; decide, by show 36 ≤ 40; decide⟩))⟩
/-- one clause, and the first k of them -/
def C1l (i : Nat) (R : Mng × Mng) (c s : Nat) (h : Hp) (j : Nat) : Prop := c < 256 ∧ h.1 (37, i) j = nI c ∧ ∃ x y z : Nat, h.1 (38, i) j = nI x ∧ h.1 (39, i) j = nI y ∧ h.1 (40, i) j = nI z ∧ z ≤ s ∧ SC (h.1 (35, i)) (h.1 (36, i)) y z true R.1 ∧ (isVn c → SC (h.1 (35, i)) (h.1 (36, i)) x y false R.2 ∧ y ≤ s)
def CL (i k : Nat) (R : Rm) (l : Nat → Nat) (s : Nat) (h : Hp) : Prop := h.1 (6, i) 10 = nI k ∧ ∀ j, j < k → C1l i (R j) (l j) s h j
/-- steps below s and rows below k stay -/
theorem C1l.kept {i s s' j : Nat} {R : Mng × Mng} {c : Nat} {h h' : Hp} (q : C1l i R c s h j) (hs : s ≤ s') (e1 : ∀ a, 37 ≤ a → a ≤ 40 → h'.1 (a, i) j = h.1 (a, i) j) (e2 : ∀ t, t < s → h'.1 (35, i) t = h.1 (35, i) t ∧ h'.1 (36, i) t = h.1 (36, i) t) : C1l i R c s' h' j := by
  obtain ⟨qc, q0, x, y, z, q1, q2, q3, q4, q5, q6⟩ := q
  refine ⟨qc, (e1 37 (by decide) (by decide)).trans q0, x, y, z, (e1 38 (by decide) (by decide)).trans q1, (e1 39 (by decide) (by decide)).trans q2, (e1 40 (by decide) (by decide)).trans q3, by omega, q5.congr (Nat.le_refl _) (Nat.le_refl _) (fun t _ ht => (e2 t (by omega)).1) (fun t _ ht => (e2 t (by omega)).2), fun c => ⟨(q6 c).1.congr (Nat.le_refl _) (Nat.le_refl _) (fun t _ ht => (e2 t (by have := (q6 c).2; omega)).1) (fun t _ ht => (e2 t (by have := (q6 c).2; omega)).2), by have := (q6 c).2; omega⟩⟩
def ClP (b : Nat → Nat) (n i k : Nat) (R : Rm) (l : Nat → Nat) (p : Nat) (r : Nat × Nat × Mng × Mng) (h : Hp) (v : Option V) (h' : Hp) : Prop := v = some (vI (bi (r.1 = 0))) ∧ KR i h h' ∧ TC b n i h' ∧ (r.1 = 0 → ∃ s', h'.1 (6, i) 8 = nI r.2.1 ∧ h'.1 (6, i) 9 = nI s' ∧ s' ≤ r.2.1 ∧ CL i (k + 1) (pud R k (r.2.2.1, r.2.2.2)) (pud l k (b p)) s' h') ∧ (¬ r.1 = 0 → h'.1 (6, i) 11 = nI r.1 ∧ h'.1 (6, i) 12 = nI r.2.1)
set_option maxRecDepth 4000 in
theorem cr_hasV {E : En} (hok : EOK E) {h : Hp} (x : Int32) : Fn E m_X6_hasValue 0 [vI x] h (vI (bi (isV x))) := by
  refine Call.enter hok (by decide) (Nat.le_of_ble_eq_true rfl) ?_
  show G E m_X6_hasValue 0 0 0 _ h 0 [some (vI x)] [] h 0 0
  refine g_iload_n (pc' := 1) dX6_hasValue_0 rfl rfl ?_
  refine g_bipushN (n := 100) (pc' := 3) dX6_hasValue_1 rfl (by decide) ?_
  refine g_icmp_eq (tgt := 24) (pc' := 6) dX6_hasValue_3 rfl (by decide) (fun c3 => ?_) (fun c3 => ?_)
  ·
    refine g_iconstN (n := 1) (pc' := 25) dX6_hasValue_24 rfl ?_
    refine g_goto (tgt := 29) dX6_hasValue_25 (by decide) ?_
    refine g_zret dX6_hasValue_29 rfl (by rfl) (by decide) (by decide) ?_
    exact ⟨congrArg (fun z : Int32 => some (vI z)) (bi_t (P := isV x) (Or.inl c3)).symm, rfl⟩
  ·
    refine g_iload_n (pc' := 7) dX6_hasValue_6 rfl rfl ?_
    refine g_bipushN (n := 102) (pc' := 9) dX6_hasValue_7 rfl (by decide) ?_
    refine g_icmp_eq (tgt := 24) (pc' := 12) dX6_hasValue_9 rfl (by decide) (fun c9 => ?_) (fun c9 => ?_)
    ·
      refine g_iconstN (n := 1) (pc' := 25) dX6_hasValue_24 rfl ?_
      refine g_goto (tgt := 29) dX6_hasValue_25 (by decide) ?_
      refine g_zret dX6_hasValue_29 rfl (by rfl) (by decide) (by decide) ?_
      exact ⟨congrArg (fun z : Int32 => some (vI z)) (bi_t (P := isV x) (Or.inr (Or.inl c9))).symm, rfl⟩
    ·
      refine g_iload_n (pc' := 13) dX6_hasValue_12 rfl rfl ?_
      refine g_bipushN (n := 112) (pc' := 15) dX6_hasValue_13 rfl (by decide) ?_
      refine g_icmp_eq (tgt := 24) (pc' := 18) dX6_hasValue_15 rfl (by decide) (fun c15 => ?_) (fun c15 => ?_)
      ·
        refine g_iconstN (n := 1) (pc' := 25) dX6_hasValue_24 rfl ?_
        refine g_goto (tgt := 29) dX6_hasValue_25 (by decide) ?_
        refine g_zret dX6_hasValue_29 rfl (by rfl) (by decide) (by decide) ?_
        exact ⟨congrArg (fun z : Int32 => some (vI z)) (bi_t (P := isV x) (Or.inr (Or.inr (Or.inl c15)))).symm, rfl⟩
      ·
        refine g_iload_n (pc' := 19) dX6_hasValue_18 rfl rfl ?_
        refine g_bipushN (n := 110) (pc' := 21) dX6_hasValue_19 rfl (by decide) ?_
        refine g_icmp_ne (tgt := 28) (pc' := 24) dX6_hasValue_21 rfl (by decide) (fun c21 => ?_) (fun c21 => ?_)
        ·
          refine g_iconstN (n := 0) (pc' := 29) dX6_hasValue_28 rfl ?_
          refine g_zret dX6_hasValue_29 rfl (by rfl) (by decide) (by decide) ?_
          exact ⟨congrArg (fun z : Int32 => some (vI z)) (bi_f (P := isV x) (fun z => by rcases z with z | z | z | z <;> contradiction)).symm, rfl⟩
        ·
          refine g_iconstN (n := 1) (pc' := 25) dX6_hasValue_24 rfl ?_
          refine g_goto (tgt := 29) dX6_hasValue_25 (by decide) ?_
          refine g_zret dX6_hasValue_29 rfl (by rfl) (by decide) (by decide) ?_
          exact ⟨congrArg (fun z : Int32 => some (vI z)) (bi_t (P := isV x) (Or.inr (Or.inr (Or.inr (c21))))).symm, rfl⟩
set_option maxRecDepth 4000 in
theorem cr_hasN {E : En} (hok : EOK E) {h : Hp} (x : Int32) : Fn E m_X6_hasNoValue 0 [vI x] h (vI (bi (isW x))) := by
  refine Call.enter hok (by decide) (Nat.le_of_ble_eq_true rfl) ?_
  show G E m_X6_hasNoValue 0 0 0 _ h 0 [some (vI x)] [] h 0 0
  refine g_iload_n (pc' := 1) dX6_hasNoValue_0 rfl rfl ?_
  refine g_bipushN (n := 97) (pc' := 3) dX6_hasNoValue_1 rfl (by decide) ?_
  refine g_icmp_eq (tgt := 24) (pc' := 6) dX6_hasNoValue_3 rfl (by decide) (fun c3 => ?_) (fun c3 => ?_)
  ·
    refine g_iconstN (n := 1) (pc' := 25) dX6_hasNoValue_24 rfl ?_
    refine g_goto (tgt := 29) dX6_hasNoValue_25 (by decide) ?_
    refine g_zret dX6_hasNoValue_29 rfl (by rfl) (by decide) (by decide) ?_
    exact ⟨congrArg (fun z : Int32 => some (vI z)) (bi_t (P := isW x) (Or.inl c3)).symm, rfl⟩
  ·
    refine g_iload_n (pc' := 7) dX6_hasNoValue_6 rfl rfl ?_
    refine g_bipushN (n := 119) (pc' := 9) dX6_hasNoValue_7 rfl (by decide) ?_
    refine g_icmp_eq (tgt := 24) (pc' := 12) dX6_hasNoValue_9 rfl (by decide) (fun c9 => ?_) (fun c9 => ?_)
    ·
      refine g_iconstN (n := 1) (pc' := 25) dX6_hasNoValue_24 rfl ?_
      refine g_goto (tgt := 29) dX6_hasNoValue_25 (by decide) ?_
      refine g_zret dX6_hasNoValue_29 rfl (by rfl) (by decide) (by decide) ?_
      exact ⟨congrArg (fun z : Int32 => some (vI z)) (bi_t (P := isW x) (Or.inr (Or.inl c9))).symm, rfl⟩
    ·
      refine g_iload_n (pc' := 13) dX6_hasNoValue_12 rfl rfl ?_
      refine g_bipushN (n := 111) (pc' := 15) dX6_hasNoValue_13 rfl (by decide) ?_
      refine g_icmp_eq (tgt := 24) (pc' := 18) dX6_hasNoValue_15 rfl (by decide) (fun c15 => ?_) (fun c15 => ?_)
      ·
        refine g_iconstN (n := 1) (pc' := 25) dX6_hasNoValue_24 rfl ?_
        refine g_goto (tgt := 29) dX6_hasNoValue_25 (by decide) ?_
        refine g_zret dX6_hasNoValue_29 rfl (by rfl) (by decide) (by decide) ?_
        exact ⟨congrArg (fun z : Int32 => some (vI z)) (bi_t (P := isW x) (Or.inr (Or.inr (Or.inl c15)))).symm, rfl⟩
      ·
        refine g_iload_n (pc' := 19) dX6_hasNoValue_18 rfl rfl ?_
        refine g_bipushN (n := 117) (pc' := 21) dX6_hasNoValue_19 rfl (by decide) ?_
        refine g_icmp_ne (tgt := 28) (pc' := 24) dX6_hasNoValue_21 rfl (by decide) (fun c21 => ?_) (fun c21 => ?_)
        ·
          refine g_iconstN (n := 0) (pc' := 29) dX6_hasNoValue_28 rfl ?_
          refine g_zret dX6_hasNoValue_29 rfl (by rfl) (by decide) (by decide) ?_
          exact ⟨congrArg (fun z : Int32 => some (vI z)) (bi_f (P := isW x) (fun z => by rcases z with z | z | z | z <;> contradiction)).symm, rfl⟩
        ·
          refine g_iconstN (n := 1) (pc' := 25) dX6_hasNoValue_24 rfl ?_
          refine g_goto (tgt := 29) dX6_hasNoValue_25 (by decide) ?_
          refine g_zret dX6_hasNoValue_29 rfl (by rfl) (by decide) (by decide) ?_
          exact ⟨congrArg (fun z : Int32 => some (vI z)) (bi_t (P := isW x) (Or.inr (Or.inr (Or.inr (c21))))).symm, rfl⟩
set_option maxRecDepth 4000 in
theorem cl_tail {E : En} (hok : EOK E) {b : Nat → Nat} {n i k p q x y s : Nat} {S : Mng} {R : Rm} {l : Nat → Nat} (hb : HB b n) (hk : k < 16) {h h0 h1 : Hp} {Q : Option V → Hp → Prop} (hQ : ∀ v h2, ClP b n i k R l p (pib b q S) h v h2 → Q v h2) (hkr : KR i h h1) (ht : TC b n i h1) (h8 : h1.1 (6, i) 8 = nI q) (h9 : h1.1 (6, i) 9 = nI y) (hk1 : h1.1 (6, i) 10 = nI (k + 1)) (hyq : y ≤ q) (hq : q ≤ n) (hsy : s ≤ y) (hcl : ∀ j, j < k → C1l i (R j) (l j) s h1 j) (h37 : h1.1 (37, i) k = nI (b p)) (h38 : h1.1 (38, i) k = nI x) (hsc : isVn (b p) → SC (h1.1 (35, i)) (h1.1 (36, i)) x y false S) : G E m_X6_readClause 32 0 0 Q h0 99 [some (vR (6, i)), some (vI (nI (b p))), some (vI (nI k)), none] [] h1 0 0 := by
  have hn := hb.1
  have hs := ht.1
  have hst5 : ST b n i y q y (wI h1 (39, i) k (nI y)) (wI h1 (39, i) k (nI y)) := ⟨ht.w (by show (39 : Nat) ≠ 20; decide) (fun z => absurd z (by show ¬ (39 : Nat) = 6; decide)), KT.rf _ _ _, h8, h9⟩
  refine g_aload_n (pc' := 100) dX6_readClause_99 rfl rfl ?_
  refine g_getS (pc' := 103) (k := 4) (b := (39, i)) dX6_readClause_100 rfl rfl ck_7 (by decide) fl_X6_24 rfl hs rfl ?_
  refine g_iload_n (pc' := 104) dX6_readClause_103 rfl rfl ?_
  refine g_aload_n (pc' := 105) dX6_readClause_104 rfl rfl ?_
  refine g_getIv (v := nI (y)) (pc' := 108) (k := 9) dX6_readClause_105 rfl rfl ck_7 (by decide) fl_X6_46 rfl (h9) ?_
  refine g_iastN (pc' := 109) dX6_readClause_108 rfl rfl (by decide) (by omega) ?_
  refine g_aload_n (pc' := 110) dX6_readClause_109 rfl rfl ?_
  refine g_iconstN (n := 0) (pc' := 111) dX6_readClause_110 rfl ?_
  refine g_invV (pc' := 114) (cr_inbr hok hb (fN 0) hyq hq (ST.re hst5 y)) dX6_readClause_111 rfl rfl ck_7 rfl ml_X6_82 im_X6_readInBrackets sl_X6_readInBrackets in_X6 co_X6_readInBrackets pd_X6_readInBrackets rfl (by omega) (by decide) ⟨by decide, by decide⟩ (Nat.le_of_ble_eq_true rfl) ?_
  rintro _ h2 ⟨rfl, q1, q2⟩ -
  rcases Classical.em ((pc b 1300 2 (fN 0) 0 q).1 = 0) with e2 | e2
  ·
    obtain ⟨s2, hst2, l1, l2, sc2⟩ := q1 e2
    rw [show bi ((pc b 1300 2 (fN 0) 0 q).1 = 0) = nI 1 from bi_t e2]
    have hs := hst2.1.1
    refine g_istore_n (pc' := 115) dX6_readClause_114 rfl (by decide) rfl ?_
    try simp only [List.set]
    refine g_aload_n (pc' := 116) dX6_readClause_115 rfl rfl ?_
    refine g_getS (pc' := 119) (k := 5) (b := (40, i)) dX6_readClause_116 rfl rfl ck_7 (by decide) fl_X6_27 rfl hs rfl ?_
    refine g_iload_n (pc' := 120) dX6_readClause_119 rfl rfl ?_
    refine g_aload_n (pc' := 121) dX6_readClause_120 rfl rfl ?_
    refine g_getI (pc' := 124) (k := 9) dX6_readClause_121 rfl rfl ck_7 (by decide) fl_X6_46 rfl ?_
    refine g_iastN (pc' := 125) dX6_readClause_124 rfl rfl (by decide) (by omega) ?_
    refine g_iload_n (pc' := 126) dX6_readClause_125 rfl rfl ?_
    refine g_zret dX6_readClause_126 rfl (by rfl) (by decide) (by decide) ?_
    refine hQ _ _ ⟨by rw [bi_t (show (pib b q S).1 = 0 from e2)]; rfl, ((hkr.w (Or.inr ⟨by decide, by decide⟩)).tr hst2.2.1.kr).w (Or.inr ⟨by decide, by decide⟩), hst2.1.w (by show (40 : Nat) ≠ 20; decide) (fun z => absurd z (by show ¬ (40 : Nat) = 6; decide)), fun _ => ⟨s2, hst2.2.2.1, hst2.2.2.2, by show s2 ≤ (pc b 1300 2 (fN 0) 0 q).2.1; omega, ?_, fun j hj => ?_⟩, fun z => absurd e2 z⟩
    · show h2.1 (6, i) 10 = nI (k + 1)
      exact (hst2.2.1.2.2.2 10 (by decide) (by decide) (by decide) (by decide)).trans hk1
    · have frm : ∀ a : Nat, 37 ≤ a → a ≤ 40 → h2.1 (a, i) = (wI h1 (39, i) k (nI y)).1 (a, i) := fun a z1 z2 => hst2.2.1.2.1 (a, i) (ad2_ne (by omega)) (ad2_ne (by omega)) (ad2_ne (by omega))
      rcases Nat.lt_or_ge j k with z | z
      · rw [show pud R k ((pib b q S).2.2.1, (pib b q S).2.2.2) j = R j from if_neg (by omega), show pud l k (b p) j = l j from if_neg (by omega)]
        refine (hcl j z).kept (by omega) (fun a z1 z2 => ?_) (fun t ht => ?_)
        · rw [wI_j (by omega), frm a z1 z2, wI_j (by omega)]
        · exact ⟨(hst2.2.1.2.2.1 t (by omega)).1, (hst2.2.1.2.2.1 t (by omega)).2⟩
      · have ej : j = k := by omega
        subst ej
        rw [show pud R j ((pib b q S).2.2.1, (pib b q S).2.2.2) j = ((pib b q S).2.2.1, (pib b q S).2.2.2) from if_pos rfl, show pud l j (b p) j = b p from if_pos rfl]
        refine ⟨hb.2.1 p, ?_, x, y, s2, ?_, ?_, (wI_same _ _ _ _).trans hst2.2.2.2, Nat.le_refl _, sc2, fun c => ⟨?_, by omega⟩⟩
        · show h2.1 (37, i) j = _
          rw [frm 37 (by decide) (by decide)]
          exact h37
        · show h2.1 (38, i) j = _
          rw [frm 38 (by decide) (by decide)]
          exact h38
        · show h2.1 (39, i) j = _
          rw [frm 39 (by decide) (by decide)]
          exact wI_same _ _ _ _
        · show SC (h2.1 (35, i)) (h2.1 (36, i)) x y false S
          exact SC.kt (h := wI h1 (39, i) j (nI y)) (hsc c) hst2.2.1 (Nat.le_refl y)
  ·
    have fb := q2 e2
    rw [show bi ((pc b 1300 2 (fN 0) 0 q).1 = 0) = nI 0 from bi_f e2]
    have hs := fb.1.1
    refine g_istore_n (pc' := 115) dX6_readClause_114 rfl (by decide) rfl ?_
    try simp only [List.set]
    refine g_aload_n (pc' := 116) dX6_readClause_115 rfl rfl ?_
    refine g_getS (pc' := 119) (k := 5) (b := (40, i)) dX6_readClause_116 rfl rfl ck_7 (by decide) fl_X6_27 rfl hs rfl ?_
    refine g_iload_n (pc' := 120) dX6_readClause_119 rfl rfl ?_
    refine g_aload_n (pc' := 121) dX6_readClause_120 rfl rfl ?_
    refine g_getI (pc' := 124) (k := 9) dX6_readClause_121 rfl rfl ck_7 (by decide) fl_X6_46 rfl ?_
    refine g_iastN (pc' := 125) dX6_readClause_124 rfl rfl (by decide) (by omega) ?_
    refine g_iload_n (pc' := 126) dX6_readClause_125 rfl rfl ?_
    refine g_zret dX6_readClause_126 rfl (by rfl) (by decide) (by decide) ?_
    refine hQ _ _ ⟨by rw [bi_f (show ¬ (pib b q S).1 = 0 from e2)]; rfl, ((hkr.w (Or.inr ⟨by decide, by decide⟩)).tr fb.2.1.kr).w (Or.inr ⟨by decide, by decide⟩), fb.1.w (by show (40 : Nat) ≠ 20; decide) (fun z => absurd z (by show ¬ (40 : Nat) = 6; decide)), fun z => absurd z e2, fun _ => fb.2.2.2⟩
set_option maxRecDepth 4000 in
theorem cr_clause {E : En} (hok : EOK E) {h : Hp} {b : Nat → Nat} {n i k p s : Nat} {R : Rm} {l : Nat → Nat} (hb : HB b n) (hst : ST b n i s p s h h) (hp : p ≤ n) (hsp : s ≤ p) (hk : k ≤ 16) (hcl : CL i k R l s h) : Call E m_X6_readClause 32 0 0 [vR (6, i)] h (ClP b n i k R l p (pcl b k p) h) := by
  have hn := hb.1
  have hs := hst.1.1
  refine Call.enter hok (by decide) (Nat.le_of_ble_eq_true rfl) ?_
  show G E m_X6_readClause 32 0 0 _ h 0 [some (vR (6, i)), none, none, none] [] h 0 0
  refine g_aload_n (pc' := 1) dX6_readClause_0 rfl rfl ?_
  refine g_invV (pc' := 4) (cr_here hok hb hst hp) dX6_readClause_1 rfl rfl ck_7 rfl ml_X6_66 im_X6_here sl_X6_here in_X6 co_X6_here pd_X6_here rfl (by omega) (by decide) ⟨by decide, by decide⟩ (Nat.le_of_ble_eq_true rfl) ?_
  rintro _ _ ⟨rfl, rfl⟩ -
  refine g_istore_n (pc' := 5) dX6_readClause_4 rfl (by decide) rfl ?_
  try simp only [List.set]
  refine g_iload_n (pc' := 6) dX6_readClause_5 rfl rfl ?_
  refine g_invS (pc' := 9) (cr_hasV hok _) dX6_readClause_6 rfl ml_X6_73 st_X6_hasValue in_X6 co_X6_hasValue pd_X6_hasValue rfl (by omega) (by decide) ⟨by decide, by decide⟩ (Nat.le_of_ble_eq_true rfl) ?_
  rintro _ _ ⟨rfl, rfl⟩ -
  refine g_ifB_ne (tgt := 25) (pc' := 12) dX6_readClause_9 rfl (by decide) (fun c9 => ?_) (fun c9 => ?_)
  ·
    have hL : isVn (b p) ∨ isNv (b p) := by
      first
      | exact Or.inl ((isV_hrc hb).mp c9)
      | exact Or.inr ((isW_hrc hb).mp c16)
    have hlt : p < n := hb.lt (by unfold isVn isNv at hL; omega)
    rw [hrc_t hlt]
    refine g_aload_n (pc' := 26) dX6_readClause_25 rfl rfl ?_
    refine g_getIv (v := nI (k)) (pc' := 29) (k := 10) dX6_readClause_26 rfl rfl ck_7 (by decide) fl_X6_49 rfl (hcl.1) ?_
    refine g_bipushN (n := 16) (pc' := 31) dX6_readClause_29 rfl (by decide) ?_
    refine g_icmp_ltN (tgt := 40) (pc' := 34) dX6_readClause_31 rfl (by decide) (by omega) (by omega) (fun c31 => ?_) (fun c31 => ?_)
    ·
      refine g_aload_n (pc' := 41) dX6_readClause_40 rfl rfl ?_
      refine g_getIv (v := nI (k)) (pc' := 44) (k := 10) dX6_readClause_41 rfl rfl ck_7 (by decide) fl_X6_49 rfl (hcl.1) ?_
      refine g_istore_n (pc' := 45) dX6_readClause_44 rfl (by decide) rfl ?_
      try simp only [List.set]
      refine g_aload_n (pc' := 46) dX6_readClause_45 rfl rfl ?_
      refine g_dup (pc' := 47) dX6_readClause_46 rfl rfl ?_
      refine g_getIv (v := nI (k)) (pc' := 50) (k := 10) dX6_readClause_47 rfl rfl ck_7 (by decide) fl_X6_49 rfl (hcl.1) ?_
      refine g_iconstN (n := 1) (pc' := 51) dX6_readClause_50 rfl ?_
      refine g_iaddN (pc' := 52) dX6_readClause_51 rfl ?_
      refine g_putI (pc' := 55) (k := 10) dX6_readClause_52 rfl rfl ck_7 (by decide) fl_X6_49 rfl rfl rfl rfl ?_
      refine g_aload_n (pc' := 56) dX6_readClause_55 rfl rfl ?_
      refine g_dup (pc' := 57) dX6_readClause_56 rfl rfl ?_
      refine g_getIv (v := nI (p)) (pc' := 60) (k := 8) dX6_readClause_57 rfl rfl ck_7 (by decide) fl_X6_43 rfl ((wI_f (by decide)).trans hst.2.2.1) ?_
      refine g_iconstN (n := 1) (pc' := 61) dX6_readClause_60 rfl ?_
      refine g_iaddN (pc' := 62) dX6_readClause_61 rfl ?_
      refine g_putI (pc' := 65) (k := 8) dX6_readClause_62 rfl rfl ck_7 (by decide) fl_X6_43 rfl rfl rfl rfl ?_
      refine g_aload_n (pc' := 66) dX6_readClause_65 rfl rfl ?_
      refine g_getS (pc' := 69) (k := 2) (b := (37, i)) dX6_readClause_66 rfl rfl ck_7 (by decide) fl_X6_18 rfl hs rfl ?_
      refine g_iload_n (pc' := 70) dX6_readClause_69 rfl rfl ?_
      refine g_iload_n (pc' := 71) dX6_readClause_70 rfl rfl ?_
      refine g_iastN (pc' := 72) dX6_readClause_71 rfl rfl (by decide) (by omega) ?_
      refine g_aload_n (pc' := 73) dX6_readClause_72 rfl rfl ?_
      refine g_getS (pc' := 76) (k := 3) (b := (38, i)) dX6_readClause_73 rfl rfl ck_7 (by decide) fl_X6_21 rfl hs rfl ?_
      refine g_iload_n (pc' := 77) dX6_readClause_76 rfl rfl ?_
      refine g_aload_n (pc' := 78) dX6_readClause_77 rfl rfl ?_
      refine g_getIv (v := nI (s)) (pc' := 81) (k := 9) dX6_readClause_78 rfl rfl ck_7 (by decide) fl_X6_46 rfl ((show (wI (wI h (6, i) 10 (nI (k + 1))) (6, i) 8 (nI (p + 1))).1 (6, i) 9 = nI s from (wI_f (by decide)).trans ((wI_f (by decide)).trans hst.2.2.2))) ?_
      refine g_iastN (pc' := 82) dX6_readClause_81 rfl rfl (by decide) (by omega) ?_
      have hst4 : ST b n i s (p + 1) s (wI (wI (wI (wI h (6, i) 10 (nI (k + 1))) (6, i) 8 (nI (p + 1))) (37, i) k (nI (b p))) (38, i) k (nI s)) (wI (wI (wI (wI h (6, i) 10 (nI (k + 1))) (6, i) 8 (nI (p + 1))) (37, i) k (nI (b p))) (38, i) k (nI s)) := ⟨(((hst.1.w (by show (6 : Nat) ≠ 20; decide) (fun _ => by decide)).w (by show (6 : Nat) ≠ 20; decide) (fun _ => by decide)).w (by show (37 : Nat) ≠ 20; decide) (fun z => absurd z (by show ¬ (37 : Nat) = 6; decide))).w (by show (38 : Nat) ≠ 20; decide) (fun z => absurd z (by show ¬ (38 : Nat) = 6; decide)), KT.rf _ _ _, wI_same (wI h (6, i) 10 (nI (k + 1))) (6, i) 8 (nI (p + 1)), (show (wI (wI h (6, i) 10 (nI (k + 1))) (6, i) 8 (nI (p + 1))).1 (6, i) 9 = nI s from (wI_f (by decide)).trans ((wI_f (by decide)).trans hst.2.2.2))⟩
      have h37 : (wI (wI (wI (wI h (6, i) 10 (nI (k + 1))) (6, i) 8 (nI (p + 1))) (37, i) k (nI (b p))) (38, i) k (nI s)).1 (37, i) k = nI (b p) := wI_same (wI (wI h (6, i) 10 (nI (k + 1))) (6, i) 8 (nI (p + 1))) (37, i) k (nI (b p))
      have hcl4 : ∀ j, j < k → C1l i (R j) (l j) s (wI (wI (wI (wI h (6, i) 10 (nI (k + 1))) (6, i) 8 (nI (p + 1))) (37, i) k (nI (b p))) (38, i) k (nI s)) j := fun j hj => (hcl.2 j hj).kept (Nat.le_refl s) (fun a z1 z2 => by rw [wI_j (by omega), wI_j (by omega), wI_off _ _ _ _ _ (ad2_ne (by omega)), wI_off _ _ _ _ _ (ad2_ne (by omega))]) (fun t _ => ⟨rfl, rfl⟩)
      have pq := px_ok hb 1000 3 (fN 0) 0 (p + 1) (by omega)
      have pq1 := pq.1
      refine g_iload_n (pc' := 83) dX6_readClause_82 rfl rfl ?_
      refine g_invS (pc' := 86) (cr_hasV hok _) dX6_readClause_83 rfl ml_X6_73 st_X6_hasValue in_X6 co_X6_hasValue pd_X6_hasValue rfl (by omega) (by decide) ⟨by decide, by decide⟩ (Nat.le_of_ble_eq_true rfl) ?_
      rintro _ _ ⟨rfl, rfl⟩ -
      refine g_ifB_eq (tgt := 99) (pc' := 89) dX6_readClause_86 rfl (by decide) (fun c86 => ?_) (fun c86 => ?_)
      ·
        have eq : pcl b k p = pib b (p + 1) (fN 0) := by unfold pcl; rw [cif_t hL, cif_f (by omega), cif_f (fun z => c86 ((isV_n (hb.2.1 p)).mpr z))]
        exact cl_tail (s := s) (x := s) (y := s) (S := fN 0) (R := R) (l := l) hok hb (by omega) (fun v h2 z => by show ClP b n i k R l p (pcl b k p) h v h2; rw [eq]; exact z) (((((KR.rf i h).w (Or.inl rfl)).w (Or.inl rfl)).w (Or.inr ⟨by decide, by decide⟩)).w (Or.inr ⟨by decide, by decide⟩)) hst4.1 hst4.2.2.1 hst4.2.2.2 (show (wI (wI h (6, i) 10 (nI (k + 1))) (6, i) 8 (nI (p + 1))).1 (6, i) 10 = nI (k + 1) from (wI_f (by decide)).trans (wI_same _ _ _ _)) (by omega) (by omega) (Nat.le_refl s) hcl4 h37 (wI_same _ _ _ _) (fun z => absurd z (fun z => c86 ((isV_n (hb.2.1 p)).mpr z)))
      ·
        refine g_aload_n (pc' := 90) dX6_readClause_89 rfl rfl ?_
        refine g_iconstN (n := 0) (pc' := 91) dX6_readClause_90 rfl ?_
        refine g_invV (pc' := 94) (cr_expr hok hb (fN 0) (o := 0) (by decide) (show s ≤ p + 1 by omega) (by omega) hst4) dX6_readClause_91 rfl rfl ck_7 rfl ml_X6_79 im_X6_readExpression sl_X6_readExpression in_X6 co_X6_readExpression pd_X6_readExpression rfl (by omega) (by decide) ⟨by decide, by decide⟩ (Nat.le_of_ble_eq_true rfl) ?_
        rintro _ h2 ⟨rfl, q1, q2⟩ -
        rcases Classical.em ((px b 1000 3 (fN 0) 0 (p + 1)).1 = 0) with e2 | e2
        ·
          obtain ⟨s2, hst2, l1, l2, sc2⟩ := q1 e2
          rw [show bi ((px b 1000 3 (fN 0) 0 (p + 1)).1 = 0) = nI 1 from bi_t e2]
          refine g_if_neN (tgt := 99) (pc' := 97) dX6_readClause_94 rfl (by decide) (by decide) (fun _ => ?_) (fun q => False.elim (by revert q; decide))
          have eq : pcl b k p = pib b (px b 1000 3 (fN 0) 0 (p + 1)).2.1 (px b 1000 3 (fN 0) 0 (p + 1)).2.2 := by unfold pcl; rw [cif_t hL, cif_f (by omega), cif_t ((isV_n (hb.2.1 p)).mp c86), cif_t e2]
          have frm : ∀ a : Nat, 37 ≤ a → a ≤ 40 → h2.1 (a, i) = (wI (wI (wI (wI h (6, i) 10 (nI (k + 1))) (6, i) 8 (nI (p + 1))) (37, i) k (nI (b p))) (38, i) k (nI s)).1 (a, i) := fun a z1 z2 => hst2.2.1.2.1 (a, i) (ad2_ne (by omega)) (ad2_ne (by omega)) (ad2_ne (by omega))
          refine cl_tail (s := s2) (x := s) (y := s2) (S := (px b 1000 3 (fN 0) 0 (p + 1)).2.2) (R := R) (l := l) hok hb (by omega) (fun v h2 z => by show ClP b n i k R l p (pcl b k p) h v h2; rw [eq]; exact z) (KR.tr (((((KR.rf i h).w (Or.inl rfl)).w (Or.inl rfl)).w (Or.inr ⟨by decide, by decide⟩)).w (Or.inr ⟨by decide, by decide⟩)) hst2.2.1.kr) hst2.1 hst2.2.2.1 hst2.2.2.2 ((hst2.2.1.2.2.2 10 (by decide) (by decide) (by decide) (by decide)).trans (show (wI (wI h (6, i) 10 (nI (k + 1))) (6, i) 8 (nI (p + 1))).1 (6, i) 10 = nI (k + 1) from (wI_f (by decide)).trans (wI_same _ _ _ _))) (by omega) pq1 (Nat.le_refl s2) (fun j hj => ?_) ?_ ?_ (fun _ => sc2)
          · exact (hcl4 j hj).kept (by omega) (fun a z1 z2 => by rw [frm a z1 z2]) (fun t ht => hst2.2.1.2.2.1 t ht)
          · rw [frm 37 (by decide) (by decide)]; exact h37
          · rw [frm 38 (by decide) (by decide)]; exact wI_same _ _ _ _
        ·
          have fb := q2 e2
          rw [show bi ((px b 1000 3 (fN 0) 0 (p + 1)).1 = 0) = nI 0 from bi_f e2]
          refine g_if_neN (tgt := 99) (pc' := 97) dX6_readClause_94 rfl (by decide) (by decide) (fun q => False.elim (by revert q; decide)) (fun _ => ?_)
          refine g_iconstN (n := 0) (pc' := 98) dX6_readClause_97 rfl ?_
          refine g_zret dX6_readClause_98 rfl (by rfl) (by decide) (by decide) ?_
          show ClP b n i k R l p (pcl b k p) h _ _
          unfold pcl
          rw [cif_t hL, cif_f (by omega), cif_t ((isV_n (hb.2.1 p)).mp c86), cif_f e2]
          exact ⟨by rw [bi_f e2]; rfl, KR.tr (((((KR.rf i h).w (Or.inl rfl)).w (Or.inl rfl)).w (Or.inr ⟨by decide, by decide⟩)).w (Or.inr ⟨by decide, by decide⟩)) fb.2.1.kr, fb.1, fun z => absurd z e2, fun _ => fb.2.2.2⟩
    ·
      refine g_aload_n (pc' := 35) dX6_readClause_34 rfl rfl ?_
      refine g_iconstN (n := 4) (pc' := 36) dX6_readClause_35 rfl ?_
      refine g_invV (pc' := 39) (cr_failed hok hst.2.2.1 4) dX6_readClause_36 rfl rfl ck_7 rfl ml_X6_70 im_X6_failed sl_X6_failed in_X6 co_X6_failed pd_X6_failed rfl (by omega) (by decide) ⟨by decide, by decide⟩ (Nat.le_of_ble_eq_true rfl) ?_
      rintro _ _ ⟨rfl, rfl⟩ -
      refine g_zret dX6_readClause_39 rfl (by rfl) (by decide) (by decide) ?_
      show ClP b n i k R l p (pcl b k p) h _ _
      unfold pcl
      rw [cif_t hL, cif_t (by omega)]
      exact ⟨by rw [bi_f (show ¬ (4 : Nat) = 0 by decide)]; rfl, ((KR.rf i h).w (Or.inl rfl)).w (Or.inl rfl), (hst.1.w (by show (6 : Nat) ≠ 20; decide) (fun _ => by decide)).w (by show (6 : Nat) ≠ 20; decide) (fun _ => by decide), fun z => absurd (show (4 : Nat) = 0 from z) (by decide), fun _ => ⟨(wI_f (by decide)).trans (wI_same _ _ _ _), wI_same _ _ _ _⟩⟩
  ·
    refine g_iload_n (pc' := 13) dX6_readClause_12 rfl rfl ?_
    refine g_invS (pc' := 16) (cr_hasN hok _) dX6_readClause_13 rfl ml_X6_76 st_X6_hasNoValue in_X6 co_X6_hasNoValue pd_X6_hasNoValue rfl (by omega) (by decide) ⟨by decide, by decide⟩ (Nat.le_of_ble_eq_true rfl) ?_
    rintro _ _ ⟨rfl, rfl⟩ -
    refine g_ifB_ne (tgt := 25) (pc' := 19) dX6_readClause_16 rfl (by decide) (fun c16 => ?_) (fun c16 => ?_)
    ·
      have hL : isVn (b p) ∨ isNv (b p) := by
        first
        | exact Or.inl ((isV_hrc hb).mp c9)
        | exact Or.inr ((isW_hrc hb).mp c16)
      have hlt : p < n := hb.lt (by unfold isVn isNv at hL; omega)
      rw [hrc_t hlt]
      refine g_aload_n (pc' := 26) dX6_readClause_25 rfl rfl ?_
      refine g_getIv (v := nI (k)) (pc' := 29) (k := 10) dX6_readClause_26 rfl rfl ck_7 (by decide) fl_X6_49 rfl (hcl.1) ?_
      refine g_bipushN (n := 16) (pc' := 31) dX6_readClause_29 rfl (by decide) ?_
      refine g_icmp_ltN (tgt := 40) (pc' := 34) dX6_readClause_31 rfl (by decide) (by omega) (by omega) (fun c31 => ?_) (fun c31 => ?_)
      ·
        refine g_aload_n (pc' := 41) dX6_readClause_40 rfl rfl ?_
        refine g_getIv (v := nI (k)) (pc' := 44) (k := 10) dX6_readClause_41 rfl rfl ck_7 (by decide) fl_X6_49 rfl (hcl.1) ?_
        refine g_istore_n (pc' := 45) dX6_readClause_44 rfl (by decide) rfl ?_
        try simp only [List.set]
        refine g_aload_n (pc' := 46) dX6_readClause_45 rfl rfl ?_
        refine g_dup (pc' := 47) dX6_readClause_46 rfl rfl ?_
        refine g_getIv (v := nI (k)) (pc' := 50) (k := 10) dX6_readClause_47 rfl rfl ck_7 (by decide) fl_X6_49 rfl (hcl.1) ?_
        refine g_iconstN (n := 1) (pc' := 51) dX6_readClause_50 rfl ?_
        refine g_iaddN (pc' := 52) dX6_readClause_51 rfl ?_
        refine g_putI (pc' := 55) (k := 10) dX6_readClause_52 rfl rfl ck_7 (by decide) fl_X6_49 rfl rfl rfl rfl ?_
        refine g_aload_n (pc' := 56) dX6_readClause_55 rfl rfl ?_
        refine g_dup (pc' := 57) dX6_readClause_56 rfl rfl ?_
        refine g_getIv (v := nI (p)) (pc' := 60) (k := 8) dX6_readClause_57 rfl rfl ck_7 (by decide) fl_X6_43 rfl ((wI_f (by decide)).trans hst.2.2.1) ?_
        refine g_iconstN (n := 1) (pc' := 61) dX6_readClause_60 rfl ?_
        refine g_iaddN (pc' := 62) dX6_readClause_61 rfl ?_
        refine g_putI (pc' := 65) (k := 8) dX6_readClause_62 rfl rfl ck_7 (by decide) fl_X6_43 rfl rfl rfl rfl ?_
        refine g_aload_n (pc' := 66) dX6_readClause_65 rfl rfl ?_
        refine g_getS (pc' := 69) (k := 2) (b := (37, i)) dX6_readClause_66 rfl rfl ck_7 (by decide) fl_X6_18 rfl hs rfl ?_
        refine g_iload_n (pc' := 70) dX6_readClause_69 rfl rfl ?_
        refine g_iload_n (pc' := 71) dX6_readClause_70 rfl rfl ?_
        refine g_iastN (pc' := 72) dX6_readClause_71 rfl rfl (by decide) (by omega) ?_
        refine g_aload_n (pc' := 73) dX6_readClause_72 rfl rfl ?_
        refine g_getS (pc' := 76) (k := 3) (b := (38, i)) dX6_readClause_73 rfl rfl ck_7 (by decide) fl_X6_21 rfl hs rfl ?_
        refine g_iload_n (pc' := 77) dX6_readClause_76 rfl rfl ?_
        refine g_aload_n (pc' := 78) dX6_readClause_77 rfl rfl ?_
        refine g_getIv (v := nI (s)) (pc' := 81) (k := 9) dX6_readClause_78 rfl rfl ck_7 (by decide) fl_X6_46 rfl ((show (wI (wI h (6, i) 10 (nI (k + 1))) (6, i) 8 (nI (p + 1))).1 (6, i) 9 = nI s from (wI_f (by decide)).trans ((wI_f (by decide)).trans hst.2.2.2))) ?_
        refine g_iastN (pc' := 82) dX6_readClause_81 rfl rfl (by decide) (by omega) ?_
        have hst4 : ST b n i s (p + 1) s (wI (wI (wI (wI h (6, i) 10 (nI (k + 1))) (6, i) 8 (nI (p + 1))) (37, i) k (nI (b p))) (38, i) k (nI s)) (wI (wI (wI (wI h (6, i) 10 (nI (k + 1))) (6, i) 8 (nI (p + 1))) (37, i) k (nI (b p))) (38, i) k (nI s)) := ⟨(((hst.1.w (by show (6 : Nat) ≠ 20; decide) (fun _ => by decide)).w (by show (6 : Nat) ≠ 20; decide) (fun _ => by decide)).w (by show (37 : Nat) ≠ 20; decide) (fun z => absurd z (by show ¬ (37 : Nat) = 6; decide))).w (by show (38 : Nat) ≠ 20; decide) (fun z => absurd z (by show ¬ (38 : Nat) = 6; decide)), KT.rf _ _ _, wI_same (wI h (6, i) 10 (nI (k + 1))) (6, i) 8 (nI (p + 1)), (show (wI (wI h (6, i) 10 (nI (k + 1))) (6, i) 8 (nI (p + 1))).1 (6, i) 9 = nI s from (wI_f (by decide)).trans ((wI_f (by decide)).trans hst.2.2.2))⟩
        have h37 : (wI (wI (wI (wI h (6, i) 10 (nI (k + 1))) (6, i) 8 (nI (p + 1))) (37, i) k (nI (b p))) (38, i) k (nI s)).1 (37, i) k = nI (b p) := wI_same (wI (wI h (6, i) 10 (nI (k + 1))) (6, i) 8 (nI (p + 1))) (37, i) k (nI (b p))
        have hcl4 : ∀ j, j < k → C1l i (R j) (l j) s (wI (wI (wI (wI h (6, i) 10 (nI (k + 1))) (6, i) 8 (nI (p + 1))) (37, i) k (nI (b p))) (38, i) k (nI s)) j := fun j hj => (hcl.2 j hj).kept (Nat.le_refl s) (fun a z1 z2 => by rw [wI_j (by omega), wI_j (by omega), wI_off _ _ _ _ _ (ad2_ne (by omega)), wI_off _ _ _ _ _ (ad2_ne (by omega))]) (fun t _ => ⟨rfl, rfl⟩)
        have pq := px_ok hb 1000 3 (fN 0) 0 (p + 1) (by omega)
        have pq1 := pq.1
        refine g_iload_n (pc' := 83) dX6_readClause_82 rfl rfl ?_
        refine g_invS (pc' := 86) (cr_hasV hok _) dX6_readClause_83 rfl ml_X6_73 st_X6_hasValue in_X6 co_X6_hasValue pd_X6_hasValue rfl (by omega) (by decide) ⟨by decide, by decide⟩ (Nat.le_of_ble_eq_true rfl) ?_
        rintro _ _ ⟨rfl, rfl⟩ -
        refine g_ifB_eq (tgt := 99) (pc' := 89) dX6_readClause_86 rfl (by decide) (fun c86 => ?_) (fun c86 => ?_)
        ·
          have eq : pcl b k p = pib b (p + 1) (fN 0) := by unfold pcl; rw [cif_t hL, cif_f (by omega), cif_f (fun z => c86 ((isV_n (hb.2.1 p)).mpr z))]
          exact cl_tail (s := s) (x := s) (y := s) (S := fN 0) (R := R) (l := l) hok hb (by omega) (fun v h2 z => by show ClP b n i k R l p (pcl b k p) h v h2; rw [eq]; exact z) (((((KR.rf i h).w (Or.inl rfl)).w (Or.inl rfl)).w (Or.inr ⟨by decide, by decide⟩)).w (Or.inr ⟨by decide, by decide⟩)) hst4.1 hst4.2.2.1 hst4.2.2.2 (show (wI (wI h (6, i) 10 (nI (k + 1))) (6, i) 8 (nI (p + 1))).1 (6, i) 10 = nI (k + 1) from (wI_f (by decide)).trans (wI_same _ _ _ _)) (by omega) (by omega) (Nat.le_refl s) hcl4 h37 (wI_same _ _ _ _) (fun z => absurd z (fun z => c86 ((isV_n (hb.2.1 p)).mpr z)))
        ·
          refine g_aload_n (pc' := 90) dX6_readClause_89 rfl rfl ?_
          refine g_iconstN (n := 0) (pc' := 91) dX6_readClause_90 rfl ?_
          refine g_invV (pc' := 94) (cr_expr hok hb (fN 0) (o := 0) (by decide) (show s ≤ p + 1 by omega) (by omega) hst4) dX6_readClause_91 rfl rfl ck_7 rfl ml_X6_79 im_X6_readExpression sl_X6_readExpression in_X6 co_X6_readExpression pd_X6_readExpression rfl (by omega) (by decide) ⟨by decide, by decide⟩ (Nat.le_of_ble_eq_true rfl) ?_
          rintro _ h2 ⟨rfl, q1, q2⟩ -
          rcases Classical.em ((px b 1000 3 (fN 0) 0 (p + 1)).1 = 0) with e2 | e2
          ·
            obtain ⟨s2, hst2, l1, l2, sc2⟩ := q1 e2
            rw [show bi ((px b 1000 3 (fN 0) 0 (p + 1)).1 = 0) = nI 1 from bi_t e2]
            refine g_if_neN (tgt := 99) (pc' := 97) dX6_readClause_94 rfl (by decide) (by decide) (fun _ => ?_) (fun q => False.elim (by revert q; decide))
            have eq : pcl b k p = pib b (px b 1000 3 (fN 0) 0 (p + 1)).2.1 (px b 1000 3 (fN 0) 0 (p + 1)).2.2 := by unfold pcl; rw [cif_t hL, cif_f (by omega), cif_t ((isV_n (hb.2.1 p)).mp c86), cif_t e2]
            have frm : ∀ a : Nat, 37 ≤ a → a ≤ 40 → h2.1 (a, i) = (wI (wI (wI (wI h (6, i) 10 (nI (k + 1))) (6, i) 8 (nI (p + 1))) (37, i) k (nI (b p))) (38, i) k (nI s)).1 (a, i) := fun a z1 z2 => hst2.2.1.2.1 (a, i) (ad2_ne (by omega)) (ad2_ne (by omega)) (ad2_ne (by omega))
            refine cl_tail (s := s2) (x := s) (y := s2) (S := (px b 1000 3 (fN 0) 0 (p + 1)).2.2) (R := R) (l := l) hok hb (by omega) (fun v h2 z => by show ClP b n i k R l p (pcl b k p) h v h2; rw [eq]; exact z) (KR.tr (((((KR.rf i h).w (Or.inl rfl)).w (Or.inl rfl)).w (Or.inr ⟨by decide, by decide⟩)).w (Or.inr ⟨by decide, by decide⟩)) hst2.2.1.kr) hst2.1 hst2.2.2.1 hst2.2.2.2 ((hst2.2.1.2.2.2 10 (by decide) (by decide) (by decide) (by decide)).trans (show (wI (wI h (6, i) 10 (nI (k + 1))) (6, i) 8 (nI (p + 1))).1 (6, i) 10 = nI (k + 1) from (wI_f (by decide)).trans (wI_same _ _ _ _))) (by omega) pq1 (Nat.le_refl s2) (fun j hj => ?_) ?_ ?_ (fun _ => sc2)
            · exact (hcl4 j hj).kept (by omega) (fun a z1 z2 => by rw [frm a z1 z2]) (fun t ht => hst2.2.1.2.2.1 t ht)
            · rw [frm 37 (by decide) (by decide)]; exact h37
            · rw [frm 38 (by decide) (by decide)]; exact wI_same _ _ _ _
          ·
            have fb := q2 e2
            rw [show bi ((px b 1000 3 (fN 0) 0 (p + 1)).1 = 0) = nI 0 from bi_f e2]
            refine g_if_neN (tgt := 99) (pc' := 97) dX6_readClause_94 rfl (by decide) (by decide) (fun q => False.elim (by revert q; decide)) (fun _ => ?_)
            refine g_iconstN (n := 0) (pc' := 98) dX6_readClause_97 rfl ?_
            refine g_zret dX6_readClause_98 rfl (by rfl) (by decide) (by decide) ?_
            show ClP b n i k R l p (pcl b k p) h _ _
            unfold pcl
            rw [cif_t hL, cif_f (by omega), cif_t ((isV_n (hb.2.1 p)).mp c86), cif_f e2]
            exact ⟨by rw [bi_f e2]; rfl, KR.tr (((((KR.rf i h).w (Or.inl rfl)).w (Or.inl rfl)).w (Or.inr ⟨by decide, by decide⟩)).w (Or.inr ⟨by decide, by decide⟩)) fb.2.1.kr, fb.1, fun z => absurd z e2, fun _ => fb.2.2.2⟩
      ·
        refine g_aload_n (pc' := 35) dX6_readClause_34 rfl rfl ?_
        refine g_iconstN (n := 4) (pc' := 36) dX6_readClause_35 rfl ?_
        refine g_invV (pc' := 39) (cr_failed hok hst.2.2.1 4) dX6_readClause_36 rfl rfl ck_7 rfl ml_X6_70 im_X6_failed sl_X6_failed in_X6 co_X6_failed pd_X6_failed rfl (by omega) (by decide) ⟨by decide, by decide⟩ (Nat.le_of_ble_eq_true rfl) ?_
        rintro _ _ ⟨rfl, rfl⟩ -
        refine g_zret dX6_readClause_39 rfl (by rfl) (by decide) (by decide) ?_
        show ClP b n i k R l p (pcl b k p) h _ _
        unfold pcl
        rw [cif_t hL, cif_t (by omega)]
        exact ⟨by rw [bi_f (show ¬ (4 : Nat) = 0 by decide)]; rfl, ((KR.rf i h).w (Or.inl rfl)).w (Or.inl rfl), (hst.1.w (by show (6 : Nat) ≠ 20; decide) (fun _ => by decide)).w (by show (6 : Nat) ≠ 20; decide) (fun _ => by decide), fun z => absurd (show (4 : Nat) = 0 from z) (by decide), fun _ => ⟨(wI_f (by decide)).trans (wI_same _ _ _ _), wI_same _ _ _ _⟩⟩
    ·
      refine g_aload_n (pc' := 20) dX6_readClause_19 rfl rfl ?_
      refine g_iconstN (n := 1) (pc' := 21) dX6_readClause_20 rfl ?_
      refine g_invV (pc' := 24) (cr_failed hok hst.2.2.1 1) dX6_readClause_21 rfl rfl ck_7 rfl ml_X6_70 im_X6_failed sl_X6_failed in_X6 co_X6_failed pd_X6_failed rfl (by omega) (by decide) ⟨by decide, by decide⟩ (Nat.le_of_ble_eq_true rfl) ?_
      rintro _ _ ⟨rfl, rfl⟩ -
      refine g_zret dX6_readClause_24 rfl (by rfl) (by decide) (by decide) ?_
      show ClP b n i k R l p (pcl b k p) h _ _
      unfold pcl
      rw [cif_f (fun z => by rcases z with z | z <;> first | exact c9 ((isV_hrc hb).mpr z) | exact c16 ((isW_hrc hb).mpr z))]
      exact ⟨by rw [bi_f (show ¬ (1 : Nat) = 0 by decide)]; rfl, ((KR.rf i h).w (Or.inl rfl)).w (Or.inl rfl), (hst.1.w (by show (6 : Nat) ≠ 20; decide) (fun _ => by decide)).w (by show (6 : Nat) ≠ 20; decide) (fun _ => by decide), fun z => absurd (show (1 : Nat) = 0 from z) (by decide), fun _ => ⟨(wI_f (by decide)).trans (wI_same _ _ _ _), wI_same _ _ _ _⟩⟩
