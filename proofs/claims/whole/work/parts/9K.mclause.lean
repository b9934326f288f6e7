/-! the reference reads clauses -/
/-- only scratch changed -/
def MF (h h' : Hp) : Prop := h'.2 = h.2 ∧ (∀ a : Ad, a ≠ MO → ¬ (137 ≤ a.1 ∧ a.1 ≤ 142 ∨ a.1 = 152) → h'.1 a = h.1 a) ∧ ∀ j, ¬ (43 ≤ j ∧ j ≤ 51) → h'.1 MO j = h.1 MO j
theorem MF.rf (h : Hp) : MF h h := ⟨rfl, fun _ _ _ => rfl, fun _ _ => rfl⟩
theorem MF.tr {h h1 h2 : Hp} (x : MF h h1) (y : MF h1 h2) : MF h h2 := ⟨y.1.trans x.1, fun a q1 q2 => (y.2.1 a q1 q2).trans (x.2.1 a q1 q2), fun j hj => (y.2.2 j hj).trans (x.2.2 j hj)⟩
theorem MF.f {j : Nat} {x : Int32} {h h1 : Hp} (k : MF h h1) (hj : 43 ≤ j ∧ j ≤ 51) : MF h (wI h1 MO j x) :=
  ⟨k.1, fun a q1 q2 => (wI_off _ _ _ _ a q1).trans (k.2.1 a q1 q2), fun i hi => (wI_f (fun z => by omega)).trans (k.2.2 i hi)⟩
theorem MF.a {s i j : Nat} {x : Int32} {h h1 : Hp} (k : MF h h1) (hs : 137 ≤ s ∧ s ≤ 142) : MF h (wI h1 (s, i) j x) :=
  ⟨k.1, fun a q1 q2 => (wI_off _ _ _ _ a (fun z => q2 (Or.inl (by rw [z]; exact hs)))).trans (k.2.1 a q1 q2), fun t ht => by
    rw [wI_off _ _ _ _ MO (fun z => by have := congrArg Prod.fst z; have : (1 : Nat) = s := this; omega)]
    exact k.2.2 t ht⟩
theorem YZ.mf {c : Nat} {h h' : Hp} (k : YZ c h h') : MF h h' := by
  refine ⟨k.1, fun a q1 q2 => k.2.1 a q1 (fun z => q2 (by rw [z]; exact Or.inl ⟨by decide, by decide⟩)) (fun z => q2 (by rw [z]; exact Or.inl ⟨by decide, by decide⟩)) (fun z => q2 (by rw [z]; exact Or.inr rfl)), fun j hj => k.2.2.1 j ?_⟩
  unfold yz yk
  have f : ∀ t, 43 ≤ t → t ≤ 51 → Nat.beq j t = false := fun t h1 h2 => by
    cases y : Nat.beq j t with
    | false => rfl
    | true => have := Nat.eq_of_beq_eq_true y; omega
  rw [f 43 (by decide) (by decide), f 45 (by decide) (by decide), f 47 (by decide) (by decide), f 48 (by decide) (by decide), f 49 (by decide) (by decide), f 51 (by decide) (by decide), f 50 (by decide) (by decide)]
  rfl
theorem YK.mf {c w : Nat} {h h' : Hp} (k : YK c w h h') : MF h h' := k.z.mf
theorem RT.mf {b : Nat → Nat} {n : Nat} {h h' : Hp} (t : RT b n h) (k : MF h h') (e : h'.1 MO 44 = h.1 MO 44) : RT b n h' :=
  ⟨by rw [k.1]; exact t.1, fun j hj => by rw [k.2.1 (100, 0) (by decide) (by decide)]; exact t.2.1 j hj, e.trans t.2.2⟩
def C1r (R : Mng × Mng) (l c : Nat) (h : Hp) (j : Nat) : Prop := h.1 (137, 0) j = nI l ∧ ∃ x y z : Nat, h.1 (138, 0) j = nI x ∧ h.1 (139, 0) j = nI y ∧ h.1 (140, 0) j = nI z ∧ z ≤ c ∧ SRh h y z true R.1 ∧ (isVn l → SRh h x y false R.2 ∧ y ≤ c)
theorem C1r.kept {R : Mng × Mng} {l c c' j : Nat} {h h' : Hp} (q : C1r R l c h j) (hc : c ≤ c') (e1 : ∀ a, 137 ≤ a → a ≤ 140 → h'.1 (a, 0) j = h.1 (a, 0) j) (e2 : ∀ t, t < c → h'.1 (141, 0) t = h.1 (141, 0) t ∧ h'.1 (142, 0) t = h.1 (142, 0) t) : C1r R l c' h' j := by
  obtain ⟨q0, x, y, z, q1, q2, q3, q4, q5, q6⟩ := q
  refine ⟨(e1 137 (by decide) (by decide)).trans q0, x, y, z, (e1 138 (by decide) (by decide)).trans q1, (e1 139 (by decide) (by decide)).trans q2, (e1 140 (by decide) (by decide)).trans q3, by omega, q5.congr (Nat.le_refl _) (Nat.le_refl _) (fun t _ ht => (e2 t (by omega)).1) (fun t _ ht => (e2 t (by omega)).2), fun c => ⟨(q6 c).1.congr (Nat.le_refl _) (Nat.le_refl _) (fun t _ ht => (e2 t (by have := (q6 c).2; omega)).1) (fun t _ ht => (e2 t (by have := (q6 c).2; omega)).2), by have := (q6 c).2; omega⟩⟩
def CLR (k : Nat) (R : Rm) (l : Nat → Nat) (c : Nat) (h : Hp) : Prop := h.1 MO 46 = nI k ∧ ∀ j, j < k → l j < 256 ∧ C1r (R j) (l j) c h j
def ClM (b : Nat → Nat) (n k : Nat) (R : Rm) (l : Nat → Nat) (p : Nat) (r : Nat × Nat × Mng × Mng) (h : Hp) (v : Option V) (h' : Hp) : Prop := v = none ∧ MF h h' ∧ (r.1 = 0 → RT b n h' ∧ h'.1 MO 45 = 0 ∧ h'.1 MO 43 = nI r.2.1 ∧ ∃ c', h'.1 MO 47 = nI c' ∧ c' ≤ r.2.1 ∧ CLR (k + 1) (pud R k (r.2.2.1, r.2.2.2)) (pud l k (b p)) c' h') ∧ (¬ r.1 = 0 → h'.1 MO 45 = bdv r.1 r.2.1)
set_option maxRecDepth 4000 in
theorem ml_tail {E : En} (hok : EOK E) {b : Nat → Nat} {n k p q x y c : Nat} {S : Mng} {R : Rm} {l : Nat → Nat} (hb : HB b n) (hk : k < 16) {h h0 h1 : Hp} {Q : Option V → Hp → Prop} (hQ : ∀ h2, ClM b n k R l p (pib b q S) h none h2 → Q none h2) (hmf : MF h h1) (hr : RS b n q y 0 0 h1) (hk1 : h1.1 MO 46 = nI k) (hcy : c ≤ y) (hcl : ∀ j, j < k → l j < 256 ∧ C1r (R j) (l j) c h1 j) (h37 : h1.1 (137, 0) k = nI (b p)) (h38 : h1.1 (138, 0) k = nI x) (hsc : isVn (b p) → SRh h1 x y false S) : G E m_X12_clause 7 0 0 Q h0 128 [some (vR MO), some (vI (nI (b p)))] [] h1 0 0 := by
  have hb1 := hb.1
  have hs := hr.s
  have hr5 : RS b n q y 0 0 (wI h1 (139, 0) k (nI y)) := ⟨hr.1.mf ((MF.rf h1).a (show 137 ≤ 139 ∧ 139 ≤ 142 by decide)) rfl, hr.2⟩
  refine g_aload_n (pc' := 129) dX12_clause_128 rfl rfl ?_
  refine g_getS (pc' := 132) (k := 39) (b := (139, 0)) dX12_clause_129 rfl rfl ck_13 (by decide) fl_X12_105 rfl hs rfl ?_
  refine g_aload_n (pc' := 133) dX12_clause_132 rfl rfl ?_
  refine g_getIv (v := nI (k)) (pc' := 136) (k := 46) dX12_clause_133 rfl rfl ck_13 (by decide) fl_X12_364 rfl (hk1) ?_
  refine g_aload_n (pc' := 137) dX12_clause_136 rfl rfl ?_
  refine g_getIv (v := nI (y)) (pc' := 140) (k := 47) dX12_clause_137 rfl rfl ck_13 (by decide) fl_X12_275 rfl (hr.2.2.1) ?_
  refine g_iastN (pc' := 141) dX12_clause_140 rfl rfl (by decide) (by omega) ?_
  refine g_aload_n (pc' := 142) dX12_clause_141 rfl rfl ?_
  refine g_invV (pc' := 145) (cm_good (h := (wI h1 (139, 0) k (nI y))) hok hr.g) dX12_clause_142 rfl rfl ck_13 rfl ml_X12_271 im_X12_isGood sl_X12_isGood in_X12 co_X12_isGood pd_X12_isGood rfl (by omega) (by decide) ⟨by decide, by decide⟩ (Nat.le_of_ble_eq_true rfl) ?_
  rintro _ _ ⟨rfl, rfl⟩ -
  refine g_if_eqN (tgt := 152) (pc' := 148) dX12_clause_145 rfl (by decide) (by decide) (fun q => False.elim (by revert q; decide)) (fun _ => ?_)
  refine g_aload_n (pc' := 149) dX12_clause_148 rfl rfl ?_
  refine g_invV (pc' := 152) (cm_cond hok (fN 0) hb hr5) dX12_clause_149 rfl rfl ck_13 rfl ml_X12_367 im_X12_condition sl_X12_condition in_X12 co_X12_condition pd_X12_condition rfl (by omega) (by decide) ⟨by decide, by decide⟩ (Nat.le_of_ble_eq_true rfl) ?_
  rintro _ h2 ⟨rfl, yz2, q1, q2⟩ -
  have h46 : h2.1 MO 46 = nI k := (yz2.2.2.1 46 rfl).trans hk1
  have hs : Shp h2.2 := by rw [yz2.1]; exact hr.s
  rcases Classical.em ((pc b 1300 2 (fN 0) 0 q).1 = 0) with e2 | e2
  ·
    obtain ⟨c2, l2, hr2, sr2⟩ := q1 e2
    clear q1 q2
    refine g_aload_n (pc' := 153) dX12_clause_152 rfl rfl ?_
    refine g_getS (pc' := 156) (k := 40) (b := (140, 0)) dX12_clause_153 rfl rfl ck_13 (by decide) fl_X12_108 rfl hs rfl ?_
    refine g_aload_n (pc' := 157) dX12_clause_156 rfl rfl ?_
    refine g_getIv (v := nI (k)) (pc' := 160) (k := 46) dX12_clause_157 rfl rfl ck_13 (by decide) fl_X12_364 rfl (h46) ?_
    refine g_aload_n (pc' := 161) dX12_clause_160 rfl rfl ?_
    refine g_getI (pc' := 164) (k := 47) dX12_clause_161 rfl rfl ck_13 (by decide) fl_X12_275 rfl ?_
    refine g_iastN (pc' := 165) dX12_clause_164 rfl rfl (by decide) (by omega) ?_
    refine g_aload_n (pc' := 166) dX12_clause_165 rfl rfl ?_
    refine g_dup (pc' := 167) dX12_clause_166 rfl rfl ?_
    refine g_getIv (v := nI (k)) (pc' := 170) (k := 46) dX12_clause_167 rfl rfl ck_13 (by decide) fl_X12_364 rfl (h46) ?_
    refine g_iconstN (n := 1) (pc' := 171) dX12_clause_170 rfl ?_
    refine g_iaddN (pc' := 172) dX12_clause_171 rfl ?_
    refine g_putI (pc' := 175) (k := 46) dX12_clause_172 rfl rfl ck_13 (by decide) fl_X12_364 rfl rfl rfl rfl ?_
    refine g_vret dX12_clause_175 rfl (by decide) (by decide) ?_
    have hi2 := hr2.i
    refine hQ _ ⟨rfl, (((hmf.a (show 137 ≤ 139 ∧ 139 ≤ 142 by decide)).tr yz2.mf).a (show 137 ≤ 140 ∧ 140 ≤ 142 by decide)).f (show 43 ≤ 46 ∧ 46 ≤ 51 by decide), fun _ => ⟨hr2.1, hr2.g, hr2.2.1, c2, hr2.2.2.1, by show c2 ≤ (pc b 1300 2 (fN 0) 0 q).2.1; omega, ?_, fun j hj => ?_⟩, fun z => absurd e2 z⟩
    · exact wI_same (wI h2 (140, 0) k (h2.1 MO 47)) MO 46 (nI (k + 1))
    · have frm : ∀ a : Nat, 137 ≤ a → a ≤ 140 → h2.1 (a, 0) = (wI h1 (139, 0) k (nI y)).1 (a, 0) := fun a z1 z2 => yz2.2.1 (a, 0) (ad2_ne (by omega)) (ad2_ne (by omega)) (ad2_ne (by omega)) (ad2_ne (by omega))
      rcases Nat.lt_or_ge j k with z | z
      · rw [show pud R k ((pib b q S).2.2.1, (pib b q S).2.2.2) j = R j from if_neg (by omega), show pud l k (b p) j = l j from if_neg (by omega)]
        refine ⟨(hcl j z).1, (hcl j z).2.kept (by omega) (fun a z1 z2 => ?_) (fun t ht => ?_)⟩
        · rw [wI_off _ _ _ _ _ (ad2_ne (by omega)), wI_j (by omega), frm a z1 z2, wI_j (by omega)]
        · exact ⟨(yz2.2.2.2 t (by omega)).1, (yz2.2.2.2 t (by omega)).2⟩
      · have ej : j = k := by omega
        subst ej
        rw [show pud R j ((pib b q S).2.2.1, (pib b q S).2.2.2) j = ((pib b q S).2.2.1, (pib b q S).2.2.2) from if_pos rfl, show pud l j (b p) j = b p from if_pos rfl]
        refine ⟨hb.2.1 p, ?_, x, y, c2, ?_, ?_, (wI_same h2 (140, 0) j (h2.1 MO 47)).trans hr2.2.2.1, Nat.le_refl _, sr2, fun c => ⟨?_, by omega⟩⟩
        · show h2.1 (137, 0) j = _
          rw [frm 137 (by decide) (by decide)]
          exact h37
        · show h2.1 (138, 0) j = _
          rw [frm 138 (by decide) (by decide)]
          exact h38
        · show h2.1 (139, 0) j = _
          rw [frm 139 (by decide) (by decide)]
          exact wI_same _ _ _ _
        · show SRh h2 x y false S
          exact (hsc c).congr (Nat.le_refl _) (Nat.le_refl _) (fun t _ ht => (yz2.2.2.2 t ht).1) (fun t _ ht => (yz2.2.2.2 t ht).2)
  ·
    have e45 := q2 e2
    clear q1 q2
    refine g_aload_n (pc' := 153) dX12_clause_152 rfl rfl ?_
    refine g_getS (pc' := 156) (k := 40) (b := (140, 0)) dX12_clause_153 rfl rfl ck_13 (by decide) fl_X12_108 rfl hs rfl ?_
    refine g_aload_n (pc' := 157) dX12_clause_156 rfl rfl ?_
    refine g_getIv (v := nI (k)) (pc' := 160) (k := 46) dX12_clause_157 rfl rfl ck_13 (by decide) fl_X12_364 rfl (h46) ?_
    refine g_aload_n (pc' := 161) dX12_clause_160 rfl rfl ?_
    refine g_getI (pc' := 164) (k := 47) dX12_clause_161 rfl rfl ck_13 (by decide) fl_X12_275 rfl ?_
    refine g_iastN (pc' := 165) dX12_clause_164 rfl rfl (by decide) (by omega) ?_
    refine g_aload_n (pc' := 166) dX12_clause_165 rfl rfl ?_
    refine g_dup (pc' := 167) dX12_clause_166 rfl rfl ?_
    refine g_getIv (v := nI (k)) (pc' := 170) (k := 46) dX12_clause_167 rfl rfl ck_13 (by decide) fl_X12_364 rfl (h46) ?_
    refine g_iconstN (n := 1) (pc' := 171) dX12_clause_170 rfl ?_
    refine g_iaddN (pc' := 172) dX12_clause_171 rfl ?_
    refine g_putI (pc' := 175) (k := 46) dX12_clause_172 rfl rfl ck_13 (by decide) fl_X12_364 rfl rfl rfl rfl ?_
    refine g_vret dX12_clause_175 rfl (by decide) (by decide) ?_
    refine hQ _ ⟨rfl, (((hmf.a (show 137 ≤ 139 ∧ 139 ≤ 142 by decide)).tr yz2.mf).a (show 137 ≤ 140 ∧ 140 ≤ 142 by decide)).f (show 43 ≤ 46 ∧ 46 ≤ 51 by decide), fun z => absurd z e2, fun _ => e45⟩
set_option maxRecDepth 4000 in
theorem ml_bad {E : En} (hok : EOK E) {k : Nat} {x : Int32} (hk : k < 16) {h0 h1 : Hp} {Q : Option V → Hp → Prop} (hs : Shp h1.2) (hbad : ¬ h1.1 MO 45 = 0) (hk1 : h1.1 MO 46 = nI k) (hQ : ∀ h2, MF h1 h2 → h2.1 MO 45 = h1.1 MO 45 → Q none h2) : G E m_X12_clause 7 0 0 Q h0 128 [some (vR MO), some (vI x)] [] h1 0 0 := by
  refine g_aload_n (pc' := 129) dX12_clause_128 rfl rfl ?_
  refine g_getS (pc' := 132) (k := 39) (b := (139, 0)) dX12_clause_129 rfl rfl ck_13 (by decide) fl_X12_105 rfl hs rfl ?_
  refine g_aload_n (pc' := 133) dX12_clause_132 rfl rfl ?_
  refine g_getIv (v := nI (k)) (pc' := 136) (k := 46) dX12_clause_133 rfl rfl ck_13 (by decide) fl_X12_364 rfl (hk1) ?_
  refine g_aload_n (pc' := 137) dX12_clause_136 rfl rfl ?_
  refine g_getI (pc' := 140) (k := 47) dX12_clause_137 rfl rfl ck_13 (by decide) fl_X12_275 rfl ?_
  refine g_iastN (pc' := 141) dX12_clause_140 rfl rfl (by decide) (by omega) ?_
  refine g_aload_n (pc' := 142) dX12_clause_141 rfl rfl ?_
  refine g_invV (pc' := 145) (cm_bad (h := wI h1 (139, 0) k (h1.1 MO 47)) hok hbad) dX12_clause_142 rfl rfl ck_13 rfl ml_X12_271 im_X12_isGood sl_X12_isGood in_X12 co_X12_isGood pd_X12_isGood rfl (by omega) (by decide) ⟨by decide, by decide⟩ (Nat.le_of_ble_eq_true rfl) ?_
  rintro _ _ ⟨rfl, rfl⟩ -
  refine g_if_eqN (tgt := 152) (pc' := 148) dX12_clause_145 rfl (by decide) (by decide) (fun _ => ?_) (fun q => False.elim (by revert q; decide))
  refine g_aload_n (pc' := 153) dX12_clause_152 rfl rfl ?_
  refine g_getS (pc' := 156) (k := 40) (b := (140, 0)) dX12_clause_153 rfl rfl ck_13 (by decide) fl_X12_108 rfl hs rfl ?_
  refine g_aload_n (pc' := 157) dX12_clause_156 rfl rfl ?_
  refine g_getIv (v := nI (k)) (pc' := 160) (k := 46) dX12_clause_157 rfl rfl ck_13 (by decide) fl_X12_364 rfl (hk1) ?_
  refine g_aload_n (pc' := 161) dX12_clause_160 rfl rfl ?_
  refine g_getI (pc' := 164) (k := 47) dX12_clause_161 rfl rfl ck_13 (by decide) fl_X12_275 rfl ?_
  refine g_iastN (pc' := 165) dX12_clause_164 rfl rfl (by decide) (by omega) ?_
  refine g_aload_n (pc' := 166) dX12_clause_165 rfl rfl ?_
  refine g_dup (pc' := 167) dX12_clause_166 rfl rfl ?_
  refine g_getIv (v := nI (k)) (pc' := 170) (k := 46) dX12_clause_167 rfl rfl ck_13 (by decide) fl_X12_364 rfl (hk1) ?_
  refine g_iconstN (n := 1) (pc' := 171) dX12_clause_170 rfl ?_
  refine g_iaddN (pc' := 172) dX12_clause_171 rfl ?_
  refine g_putI (pc' := 175) (k := 46) dX12_clause_172 rfl rfl ck_13 (by decide) fl_X12_364 rfl rfl rfl rfl ?_
  refine g_vret dX12_clause_175 rfl (by decide) (by decide) ?_
  exact hQ _ ((((MF.rf h1).a (show 137 ≤ 139 ∧ 139 ≤ 142 by decide)).a (show 137 ≤ 140 ∧ 140 ≤ 142 by decide)).f (show 43 ≤ 46 ∧ 46 ≤ 51 by decide)) rfl
set_option maxRecDepth 4000 in
theorem cm_clause {E : En} (hok : EOK E) {h : Hp} {b : Nat → Nat} {n k p c : Nat} {R : Rm} {l : Nat → Nat} (hb : HB b n) (ht : RT b n h) (h43 : h.1 MO 43 = nI p) (h47 : h.1 MO 47 = nI c) (hg : h.1 MO 45 = 0) (hcp : c ≤ p) (hp : p ≤ n) (hk : k ≤ 16) (hcl : CLR k R l c h) : Call E m_X12_clause 7 0 0 [vR MO] h (ClM b n k R l p (pcl b k p) h) := by
  have hb1 := hb.1
  have hs := ht.1
  have h256 := hb.2.1 p
  have hp4 : p ≤ 400 := by omega
  refine Call.enter hok (by decide) (Nat.le_of_ble_eq_true rfl) ?_
  show G E m_X12_clause 7 0 0 _ h 0 [some (vR MO), none] [] h 0 0
  refine g_aload_n (pc' := 1) dX12_clause_0 rfl rfl ?_
  refine g_invV (pc' := 4) (cm_here hok hb ht h43 hp4) dX12_clause_1 rfl rfl ck_13 rfl ml_X12_288 im_X12_here sl_X12_here in_X12 co_X12_here pd_X12_here rfl (by omega) (by decide) ⟨by decide, by decide⟩ (Nat.le_of_ble_eq_true rfl) ?_
  rintro _ _ ⟨rfl, rfl⟩ -
  refine g_istore_n (pc' := 5) dX12_clause_4 rfl (by decide) rfl ?_
  try simp only [List.set]
  refine g_iload_n (pc' := 6) dX12_clause_5 rfl rfl ?_
  refine g_invS (pc' := 9) (cm_isVn hok (hb.2.1 p)) dX12_clause_6 rfl ml_X12_361 st_X12_hasSum in_X12 co_X12_hasSum pd_X12_hasSum rfl (by omega) (by decide) ⟨by decide, by decide⟩ (Nat.le_of_ble_eq_true rfl) ?_
  rintro _ _ ⟨rfl, rfl⟩ -
  refine g_ifB_ne (tgt := 48) (pc' := 12) dX12_clause_9 rfl (by decide) (fun c9 => ?_) (fun c9 => ?_)
  ·
    have hL : isVn (b p) ∨ isNv (b p) := by
      first
      | exact Or.inl c9
      | exact Or.inr (by unfold isNv; omega)
    refine g_aload_n (pc' := 49) dX12_clause_48 rfl rfl ?_
    refine g_getIv (v := nI (k)) (pc' := 52) (k := 46) dX12_clause_49 rfl rfl ck_13 (by decide) fl_X12_364 rfl (hcl.1) ?_
    refine g_bipushN (n := 16) (pc' := 54) dX12_clause_52 rfl (by decide) ?_
    refine g_icmp_neN (tgt := 66) (pc' := 57) dX12_clause_54 rfl (by decide) (by omega) (by omega) (fun c54 => ?_) (fun c54 => ?_)
    ·
      refine g_aload_n (pc' := 67) dX12_clause_66 rfl rfl ?_
      refine g_invV (pc' := 70) (cm_good hok hg) dX12_clause_67 rfl rfl ck_13 rfl ml_X12_271 im_X12_isGood sl_X12_isGood in_X12 co_X12_isGood pd_X12_isGood rfl (by omega) (by decide) ⟨by decide, by decide⟩ (Nat.le_of_ble_eq_true rfl) ?_
      rintro _ _ ⟨rfl, rfl⟩ -
      refine g_if_neN (tgt := 74) (pc' := 73) dX12_clause_70 rfl (by decide) (by decide) (fun _ => ?_) (fun q => False.elim (by revert q; decide))
      have hlt : p < n := hb.lt (by unfold isVn isNv at hL; omega)
      refine g_aload_n (pc' := 75) dX12_clause_74 rfl rfl ?_
      refine g_getS (pc' := 78) (k := 37) (b := (137, 0)) dX12_clause_75 rfl rfl ck_13 (by decide) fl_X12_99 rfl hs rfl ?_
      refine g_aload_n (pc' := 79) dX12_clause_78 rfl rfl ?_
      refine g_getIv (v := nI (k)) (pc' := 82) (k := 46) dX12_clause_79 rfl rfl ck_13 (by decide) fl_X12_364 rfl (hcl.1) ?_
      refine g_iload_n (pc' := 83) dX12_clause_82 rfl rfl ?_
      refine g_iastN (pc' := 84) dX12_clause_83 rfl rfl (by decide) (by omega) ?_
      refine g_aload_n (pc' := 85) dX12_clause_84 rfl rfl ?_
      refine g_getS (pc' := 88) (k := 38) (b := (138, 0)) dX12_clause_85 rfl rfl ck_13 (by decide) fl_X12_102 rfl hs rfl ?_
      refine g_aload_n (pc' := 89) dX12_clause_88 rfl rfl ?_
      refine g_getIv (v := nI (k)) (pc' := 92) (k := 46) dX12_clause_89 rfl rfl ck_13 (by decide) fl_X12_364 rfl (hcl.1) ?_
      refine g_aload_n (pc' := 93) dX12_clause_92 rfl rfl ?_
      refine g_getIv (v := nI (c)) (pc' := 96) (k := 47) dX12_clause_93 rfl rfl ck_13 (by decide) fl_X12_275 rfl (h47) ?_
      refine g_iastN (pc' := 97) dX12_clause_96 rfl rfl (by decide) (by omega) ?_
      refine g_aload_n (pc' := 98) dX12_clause_97 rfl rfl ?_
      refine g_dup (pc' := 99) dX12_clause_98 rfl rfl ?_
      refine g_getIv (v := nI (p)) (pc' := 102) (k := 43) dX12_clause_99 rfl rfl ck_13 (by decide) fl_X12_262 rfl (h43) ?_
      refine g_iconstN (n := 1) (pc' := 103) dX12_clause_102 rfl ?_
      refine g_iaddN (pc' := 104) dX12_clause_103 rfl ?_
      refine g_putI (pc' := 107) (k := 43) dX12_clause_104 rfl rfl ck_13 (by decide) fl_X12_262 rfl rfl rfl rfl ?_
      refine g_aload_n (pc' := 108) dX12_clause_107 rfl rfl ?_
      refine g_iconstN (n := 0) (pc' := 109) dX12_clause_108 rfl ?_
      refine g_putI (pc' := 112) (k := 49) dX12_clause_109 rfl rfl ck_13 (by decide) fl_X12_278 rfl rfl rfl rfl ?_
      refine g_aload_n (pc' := 113) dX12_clause_112 rfl rfl ?_
      refine g_iconstN (n := 0) (pc' := 114) dX12_clause_113 rfl ?_
      refine g_putI (pc' := 117) (k := 48) dX12_clause_114 rfl rfl ck_13 (by decide) fl_X12_281 rfl rfl rfl rfl ?_
      have mf5 : MF h (wI (wI (wI (wI (wI h (137, 0) k (nI (b p))) (138, 0) k (nI c)) MO 43 (nI (p + 1))) MO 49 (nI 0)) MO 48 (nI 0)) := ((((((MF.rf h).a (show 137 ≤ 137 ∧ 137 ≤ 142 by decide)).a (show 137 ≤ 138 ∧ 138 ≤ 142 by decide)).f (show 43 ≤ 43 ∧ 43 ≤ 51 by decide)).f (show 43 ≤ 49 ∧ 49 ≤ 51 by decide)).f (show 43 ≤ 48 ∧ 48 ≤ 51 by decide))
      have hr5 : RS b n (p + 1) c 0 0 (wI (wI (wI (wI (wI h (137, 0) k (nI (b p))) (138, 0) k (nI c)) MO 43 (nI (p + 1))) MO 49 (nI 0)) MO 48 (nI 0)) := ⟨ht.mf mf5 rfl, rfl, h47, rfl, rfl, hg, by omega, by omega⟩
      have h37 : (wI (wI (wI (wI (wI h (137, 0) k (nI (b p))) (138, 0) k (nI c)) MO 43 (nI (p + 1))) MO 49 (nI 0)) MO 48 (nI 0)).1 (137, 0) k = nI (b p) := wI_same h (137, 0) k (nI (b p))
      have h38 : (wI (wI (wI (wI (wI h (137, 0) k (nI (b p))) (138, 0) k (nI c)) MO 43 (nI (p + 1))) MO 49 (nI 0)) MO 48 (nI 0)).1 (138, 0) k = nI c := wI_same (wI h (137, 0) k (nI (b p))) (138, 0) k (nI c)
      have hcl5 : ∀ j, j < k → l j < 256 ∧ C1r (R j) (l j) c (wI (wI (wI (wI (wI h (137, 0) k (nI (b p))) (138, 0) k (nI c)) MO 43 (nI (p + 1))) MO 49 (nI 0)) MO 48 (nI 0)) j := fun j hj => ⟨(hcl.2 j hj).1, (hcl.2 j hj).2.kept (Nat.le_refl c) (fun a z1 z2 => by rw [wI_off _ _ _ _ _ (ad2_ne (by omega)), wI_off _ _ _ _ _ (ad2_ne (by omega)), wI_off _ _ _ _ _ (ad2_ne (by omega)), wI_j (by omega), wI_j (by omega)]) (fun t _ => ⟨rfl, rfl⟩)⟩
      refine g_iload_n (pc' := 118) dX12_clause_117 rfl rfl ?_
      refine g_invS (pc' := 121) (cm_isVn hok (hb.2.1 p)) dX12_clause_118 rfl ml_X12_361 st_X12_hasSum in_X12 co_X12_hasSum pd_X12_hasSum rfl (by omega) (by decide) ⟨by decide, by decide⟩ (Nat.le_of_ble_eq_true rfl) ?_
      rintro _ _ ⟨rfl, rfl⟩ -
      refine g_ifB_eq (tgt := 128) (pc' := 124) dX12_clause_121 rfl (by decide) (fun c121 => ?_) (fun c121 => ?_)
      ·
        have eq : pcl b k p = pib b (p + 1) (fN 0) := (cif_t hL).trans ((cif_f (by omega)).trans (cif_f c121))
        exact ml_tail (c := c) (x := c) (S := fN 0) (R := R) (l := l) hok hb (by omega) (fun h2 z => by show ClM b n k R l p (pcl b k p) h none h2; rw [eq]; exact z) mf5 hr5 hcl.1 (Nat.le_refl c) hcl5 h37 h38 (fun z => absurd z c121)
      ·
        refine g_aload_n (pc' := 125) dX12_clause_124 rfl rfl ?_
        refine g_invV (pc' := 128) (cm_value hok (fN 0) hb hr5 (by decide) (g := 0) (by decide) rfl (by unfold isTm isPl; omega) (by decide)) dX12_clause_125 rfl rfl ck_13 rfl ml_X12_340 im_X12_value sl_X12_value in_X12 co_X12_value pd_X12_value rfl (by omega) (by decide) ⟨by decide, by decide⟩ (Nat.le_of_ble_eq_true rfl) ?_
        rintro _ h2 ⟨rfl, k2, q1, q2, q3⟩ -
        have pk := px_ok hb 1000 3 (fN 0) 0 (p + 1) (by omega)
        have pk1 := pk.1
        have pk2 := pk.2.1
        rcases em3 ((px b 1000 3 (fN 0) 0 (p + 1)).1 = 0) (b (px b 1000 3 (fN 0) 0 (p + 1)).2.1 = 93) with ⟨e1, e2⟩ | ⟨e1, e2⟩ | e1
        ·
          obtain ⟨c1, l1, hr1, sr1⟩ := q1 e1 e2
          clear q1 q2 q3
          have eq : pcl b k p = pib b (px b 1000 3 (fN 0) 0 (p + 1)).2.1 (px b 1000 3 (fN 0) 0 (p + 1)).2.2 := (cif_t hL).trans ((cif_f (by omega)).trans ((cif_t c121).trans (cif_t e1)))
          have frm : ∀ a : Nat, 137 ≤ a → a ≤ 140 → h2.1 (a, 0) = (wI (wI (wI (wI (wI h (137, 0) k (nI (b p))) (138, 0) k (nI c)) MO 43 (nI (p + 1))) MO 49 (nI 0)) MO 48 (nI 0)).1 (a, 0) := (fun a z1 z2 => k2.2.1 (a, 0) (ad2_ne (by omega)) (ad2_ne (by omega)) (ad2_ne (by omega)) (ad2_ne (by omega)))
          refine ml_tail (c := c1) (x := c) (S := (px b 1000 3 (fN 0) 0 (p + 1)).2.2) (R := R) (l := l) hok hb (by omega) (fun h3 z => by show ClM b n k R l p (pcl b k p) h none h3; rw [eq]; exact z) (mf5.tr k2.mf) hr1 ((k2.2.2.1 46 rfl).trans hcl.1) (Nat.le_refl c1) (fun j hj => ⟨(hcl5 j hj).1, ?_⟩) ?_ ?_ (fun _ => sr1)
          · exact (hcl5 j hj).2.kept (by omega) (fun a z1 z2 => by rw [frm a z1 z2]) (fun t ht => k2.2.2.2.1 t ht)
          · rw [frm 137 (by decide) (by decide)]; exact h37
          · rw [frm 138 (by decide) (by decide)]; exact h38
        ·
          have e45 := q2 e1 e2
          clear q1 q2 q3
          have hbad : ¬ h2.1 MO 45 = 0 := by
            rw [e45]
            exact bdv_ne (by omega) (by omega) (by omega)
          refine ml_bad hok (k := k) (by omega) (by rw [k2.1]; exact hr5.s) hbad ((k2.2.2.1 46 rfl).trans hcl.1) (fun h3 m3 e3 => ?_)
          show ClM b n k R l p (pcl b k p) h none _
          have n40 : ¬ b (px b 1000 3 (fN 0) 0 (p + 1)).2.1 = 40 := by omega
          have e0 : pc b 1300 2 (fN 0) 0 (px b 1000 3 (fN 0) 0 (p + 1)).2.1 = (1, (px b 1000 3 (fN 0) 0 (p + 1)).2.1, fN 0) := cif_f n40
          have eq : pcl b k p = (1, (px b 1000 3 (fN 0) 0 (p + 1)).2.1, fN 0, (px b 1000 3 (fN 0) 0 (p + 1)).2.2) := (cif_t hL).trans ((cif_f (by omega)).trans ((cif_t c121).trans ((cif_t e1).trans (by unfold pib; rw [e0]))))
          rw [eq]
          exact ⟨rfl, (mf5.tr k2.mf).tr m3, fun z => absurd (show (1 : Nat) = 0 from z) (by decide), fun _ => e3.trans e45⟩
        ·
          have e45 := q3 e1
          clear q1 q2 q3
          have hbad : ¬ h2.1 MO 45 = 0 := by
            rw [e45]
            exact bdv_ne (by omega) (by omega) (by omega)
          refine ml_bad hok (k := k) (by omega) (by rw [k2.1]; exact hr5.s) hbad ((k2.2.2.1 46 rfl).trans hcl.1) (fun h3 m3 e3 => ?_)
          show ClM b n k R l p (pcl b k p) h none _
          have eq : pcl b k p = ((px b 1000 3 (fN 0) 0 (p + 1)).1, (px b 1000 3 (fN 0) 0 (p + 1)).2.1, fN 0, fN 0) := (cif_t hL).trans ((cif_f (by omega)).trans ((cif_t c121).trans (cif_f e1)))
          rw [eq]
          exact ⟨rfl, (mf5.tr k2.mf).tr m3, fun z => absurd (show (px b 1000 3 (fN 0) 0 (p + 1)).1 = 0 from z) e1, fun _ => e3.trans e45⟩
    ·
      refine g_aload_n (pc' := 58) dX12_clause_57 rfl rfl ?_
      refine g_iconstN (n := 4) (pc' := 59) dX12_clause_58 rfl ?_
      refine g_aload_n (pc' := 60) dX12_clause_59 rfl rfl ?_
      refine g_getIv (v := nI (p)) (pc' := 63) (k := 43) dX12_clause_60 rfl rfl ck_13 (by decide) fl_X12_262 rfl (h43) ?_
      refine g_invV (pc' := 66) (cm_wrong hok hg 4 p) dX12_clause_63 rfl rfl ck_13 rfl ml_X12_284 im_X12_wrongs sl_X12_wrongs in_X12 co_X12_wrongs pd_X12_wrongs rfl (by omega) (by decide) ⟨by decide, by decide⟩ (Nat.le_of_ble_eq_true rfl) ?_
      rintro _ _ ⟨rfl, rfl⟩ -
      refine g_aload_n (pc' := 67) dX12_clause_66 rfl rfl ?_
      refine g_invV (pc' := 70) (cm_bad hok (by rw [wI_same]; exact bdv_ne (by decide) (by decide) (by omega))) dX12_clause_67 rfl rfl ck_13 rfl ml_X12_271 im_X12_isGood sl_X12_isGood in_X12 co_X12_isGood pd_X12_isGood rfl (by omega) (by decide) ⟨by decide, by decide⟩ (Nat.le_of_ble_eq_true rfl) ?_
      rintro _ _ ⟨rfl, rfl⟩ -
      refine g_if_neN (tgt := 74) (pc' := 73) dX12_clause_70 rfl (by decide) (by decide) (fun q => False.elim (by revert q; decide)) (fun _ => ?_)
      refine g_vret dX12_clause_73 rfl (by decide) (by decide) ?_
      show ClM b n k R l p (pcl b k p) h none _
      have eq : pcl b k p = (4, p, fN 0, fN 0) := (cif_t hL).trans (cif_t (by omega))
      rw [eq]
      exact ⟨rfl, (MF.rf h).f (show 43 ≤ 45 ∧ 45 ≤ 51 by decide), fun z => absurd (show (4 : Nat) = 0 from z) (by decide), fun _ => wI_same _ _ _ _⟩
  ·
    refine g_iload_n (pc' := 13) dX12_clause_12 rfl rfl ?_
    refine g_bipushN (n := 97) (pc' := 15) dX12_clause_13 rfl (by decide) ?_
    refine g_icmp_eqN (tgt := 48) (pc' := 18) dX12_clause_15 rfl (by decide) (by omega) (by omega) (fun c15 => ?_) (fun c15 => ?_)
    ·
      have hL : isVn (b p) ∨ isNv (b p) := by
        first
        | exact Or.inl c9
        | exact Or.inr (by unfold isNv; omega)
      refine g_aload_n (pc' := 49) dX12_clause_48 rfl rfl ?_
      refine g_getIv (v := nI (k)) (pc' := 52) (k := 46) dX12_clause_49 rfl rfl ck_13 (by decide) fl_X12_364 rfl (hcl.1) ?_
      refine g_bipushN (n := 16) (pc' := 54) dX12_clause_52 rfl (by decide) ?_
      refine g_icmp_neN (tgt := 66) (pc' := 57) dX12_clause_54 rfl (by decide) (by omega) (by omega) (fun c54 => ?_) (fun c54 => ?_)
      ·
        refine g_aload_n (pc' := 67) dX12_clause_66 rfl rfl ?_
        refine g_invV (pc' := 70) (cm_good hok hg) dX12_clause_67 rfl rfl ck_13 rfl ml_X12_271 im_X12_isGood sl_X12_isGood in_X12 co_X12_isGood pd_X12_isGood rfl (by omega) (by decide) ⟨by decide, by decide⟩ (Nat.le_of_ble_eq_true rfl) ?_
        rintro _ _ ⟨rfl, rfl⟩ -
        refine g_if_neN (tgt := 74) (pc' := 73) dX12_clause_70 rfl (by decide) (by decide) (fun _ => ?_) (fun q => False.elim (by revert q; decide))
        have hlt : p < n := hb.lt (by unfold isVn isNv at hL; omega)
        refine g_aload_n (pc' := 75) dX12_clause_74 rfl rfl ?_
        refine g_getS (pc' := 78) (k := 37) (b := (137, 0)) dX12_clause_75 rfl rfl ck_13 (by decide) fl_X12_99 rfl hs rfl ?_
        refine g_aload_n (pc' := 79) dX12_clause_78 rfl rfl ?_
        refine g_getIv (v := nI (k)) (pc' := 82) (k := 46) dX12_clause_79 rfl rfl ck_13 (by decide) fl_X12_364 rfl (hcl.1) ?_
        refine g_iload_n (pc' := 83) dX12_clause_82 rfl rfl ?_
        refine g_iastN (pc' := 84) dX12_clause_83 rfl rfl (by decide) (by omega) ?_
        refine g_aload_n (pc' := 85) dX12_clause_84 rfl rfl ?_
        refine g_getS (pc' := 88) (k := 38) (b := (138, 0)) dX12_clause_85 rfl rfl ck_13 (by decide) fl_X12_102 rfl hs rfl ?_
        refine g_aload_n (pc' := 89) dX12_clause_88 rfl rfl ?_
        refine g_getIv (v := nI (k)) (pc' := 92) (k := 46) dX12_clause_89 rfl rfl ck_13 (by decide) fl_X12_364 rfl (hcl.1) ?_
        refine g_aload_n (pc' := 93) dX12_clause_92 rfl rfl ?_
        refine g_getIv (v := nI (c)) (pc' := 96) (k := 47) dX12_clause_93 rfl rfl ck_13 (by decide) fl_X12_275 rfl (h47) ?_
        refine g_iastN (pc' := 97) dX12_clause_96 rfl rfl (by decide) (by omega) ?_
        refine g_aload_n (pc' := 98) dX12_clause_97 rfl rfl ?_
        refine g_dup (pc' := 99) dX12_clause_98 rfl rfl ?_
        refine g_getIv (v := nI (p)) (pc' := 102) (k := 43) dX12_clause_99 rfl rfl ck_13 (by decide) fl_X12_262 rfl (h43) ?_
        refine g_iconstN (n := 1) (pc' := 103) dX12_clause_102 rfl ?_
        refine g_iaddN (pc' := 104) dX12_clause_103 rfl ?_
        refine g_putI (pc' := 107) (k := 43) dX12_clause_104 rfl rfl ck_13 (by decide) fl_X12_262 rfl rfl rfl rfl ?_
        refine g_aload_n (pc' := 108) dX12_clause_107 rfl rfl ?_
        refine g_iconstN (n := 0) (pc' := 109) dX12_clause_108 rfl ?_
        refine g_putI (pc' := 112) (k := 49) dX12_clause_109 rfl rfl ck_13 (by decide) fl_X12_278 rfl rfl rfl rfl ?_
        refine g_aload_n (pc' := 113) dX12_clause_112 rfl rfl ?_
        refine g_iconstN (n := 0) (pc' := 114) dX12_clause_113 rfl ?_
        refine g_putI (pc' := 117) (k := 48) dX12_clause_114 rfl rfl ck_13 (by decide) fl_X12_281 rfl rfl rfl rfl ?_
        have mf5 : MF h (wI (wI (wI (wI (wI h (137, 0) k (nI (b p))) (138, 0) k (nI c)) MO 43 (nI (p + 1))) MO 49 (nI 0)) MO 48 (nI 0)) := ((((((MF.rf h).a (show 137 ≤ 137 ∧ 137 ≤ 142 by decide)).a (show 137 ≤ 138 ∧ 138 ≤ 142 by decide)).f (show 43 ≤ 43 ∧ 43 ≤ 51 by decide)).f (show 43 ≤ 49 ∧ 49 ≤ 51 by decide)).f (show 43 ≤ 48 ∧ 48 ≤ 51 by decide))
        have hr5 : RS b n (p + 1) c 0 0 (wI (wI (wI (wI (wI h (137, 0) k (nI (b p))) (138, 0) k (nI c)) MO 43 (nI (p + 1))) MO 49 (nI 0)) MO 48 (nI 0)) := ⟨ht.mf mf5 rfl, rfl, h47, rfl, rfl, hg, by omega, by omega⟩
        have h37 : (wI (wI (wI (wI (wI h (137, 0) k (nI (b p))) (138, 0) k (nI c)) MO 43 (nI (p + 1))) MO 49 (nI 0)) MO 48 (nI 0)).1 (137, 0) k = nI (b p) := wI_same h (137, 0) k (nI (b p))
        have h38 : (wI (wI (wI (wI (wI h (137, 0) k (nI (b p))) (138, 0) k (nI c)) MO 43 (nI (p + 1))) MO 49 (nI 0)) MO 48 (nI 0)).1 (138, 0) k = nI c := wI_same (wI h (137, 0) k (nI (b p))) (138, 0) k (nI c)
        have hcl5 : ∀ j, j < k → l j < 256 ∧ C1r (R j) (l j) c (wI (wI (wI (wI (wI h (137, 0) k (nI (b p))) (138, 0) k (nI c)) MO 43 (nI (p + 1))) MO 49 (nI 0)) MO 48 (nI 0)) j := fun j hj => ⟨(hcl.2 j hj).1, (hcl.2 j hj).2.kept (Nat.le_refl c) (fun a z1 z2 => by rw [wI_off _ _ _ _ _ (ad2_ne (by omega)), wI_off _ _ _ _ _ (ad2_ne (by omega)), wI_off _ _ _ _ _ (ad2_ne (by omega)), wI_j (by omega), wI_j (by omega)]) (fun t _ => ⟨rfl, rfl⟩)⟩
        refine g_iload_n (pc' := 118) dX12_clause_117 rfl rfl ?_
        refine g_invS (pc' := 121) (cm_isVn hok (hb.2.1 p)) dX12_clause_118 rfl ml_X12_361 st_X12_hasSum in_X12 co_X12_hasSum pd_X12_hasSum rfl (by omega) (by decide) ⟨by decide, by decide⟩ (Nat.le_of_ble_eq_true rfl) ?_
        rintro _ _ ⟨rfl, rfl⟩ -
        refine g_ifB_eq (tgt := 128) (pc' := 124) dX12_clause_121 rfl (by decide) (fun c121 => ?_) (fun c121 => ?_)
        ·
          have eq : pcl b k p = pib b (p + 1) (fN 0) := (cif_t hL).trans ((cif_f (by omega)).trans (cif_f c121))
          exact ml_tail (c := c) (x := c) (S := fN 0) (R := R) (l := l) hok hb (by omega) (fun h2 z => by show ClM b n k R l p (pcl b k p) h none h2; rw [eq]; exact z) mf5 hr5 hcl.1 (Nat.le_refl c) hcl5 h37 h38 (fun z => absurd z c121)
        ·
          refine g_aload_n (pc' := 125) dX12_clause_124 rfl rfl ?_
          refine g_invV (pc' := 128) (cm_value hok (fN 0) hb hr5 (by decide) (g := 0) (by decide) rfl (by unfold isTm isPl; omega) (by decide)) dX12_clause_125 rfl rfl ck_13 rfl ml_X12_340 im_X12_value sl_X12_value in_X12 co_X12_value pd_X12_value rfl (by omega) (by decide) ⟨by decide, by decide⟩ (Nat.le_of_ble_eq_true rfl) ?_
          rintro _ h2 ⟨rfl, k2, q1, q2, q3⟩ -
          have pk := px_ok hb 1000 3 (fN 0) 0 (p + 1) (by omega)
          have pk1 := pk.1
          have pk2 := pk.2.1
          rcases em3 ((px b 1000 3 (fN 0) 0 (p + 1)).1 = 0) (b (px b 1000 3 (fN 0) 0 (p + 1)).2.1 = 93) with ⟨e1, e2⟩ | ⟨e1, e2⟩ | e1
          ·
            obtain ⟨c1, l1, hr1, sr1⟩ := q1 e1 e2
            clear q1 q2 q3
            have eq : pcl b k p = pib b (px b 1000 3 (fN 0) 0 (p + 1)).2.1 (px b 1000 3 (fN 0) 0 (p + 1)).2.2 := (cif_t hL).trans ((cif_f (by omega)).trans ((cif_t c121).trans (cif_t e1)))
            have frm : ∀ a : Nat, 137 ≤ a → a ≤ 140 → h2.1 (a, 0) = (wI (wI (wI (wI (wI h (137, 0) k (nI (b p))) (138, 0) k (nI c)) MO 43 (nI (p + 1))) MO 49 (nI 0)) MO 48 (nI 0)).1 (a, 0) := (fun a z1 z2 => k2.2.1 (a, 0) (ad2_ne (by omega)) (ad2_ne (by omega)) (ad2_ne (by omega)) (ad2_ne (by omega)))
            refine ml_tail (c := c1) (x := c) (S := (px b 1000 3 (fN 0) 0 (p + 1)).2.2) (R := R) (l := l) hok hb (by omega) (fun h3 z => by show ClM b n k R l p (pcl b k p) h none h3; rw [eq]; exact z) (mf5.tr k2.mf) hr1 ((k2.2.2.1 46 rfl).trans hcl.1) (Nat.le_refl c1) (fun j hj => ⟨(hcl5 j hj).1, ?_⟩) ?_ ?_ (fun _ => sr1)
            · exact (hcl5 j hj).2.kept (by omega) (fun a z1 z2 => by rw [frm a z1 z2]) (fun t ht => k2.2.2.2.1 t ht)
            · rw [frm 137 (by decide) (by decide)]; exact h37
            · rw [frm 138 (by decide) (by decide)]; exact h38
          ·
            have e45 := q2 e1 e2
            clear q1 q2 q3
            have hbad : ¬ h2.1 MO 45 = 0 := by
              rw [e45]
              exact bdv_ne (by omega) (by omega) (by omega)
            refine ml_bad hok (k := k) (by omega) (by rw [k2.1]; exact hr5.s) hbad ((k2.2.2.1 46 rfl).trans hcl.1) (fun h3 m3 e3 => ?_)
            show ClM b n k R l p (pcl b k p) h none _
            have n40 : ¬ b (px b 1000 3 (fN 0) 0 (p + 1)).2.1 = 40 := by omega
            have e0 : pc b 1300 2 (fN 0) 0 (px b 1000 3 (fN 0) 0 (p + 1)).2.1 = (1, (px b 1000 3 (fN 0) 0 (p + 1)).2.1, fN 0) := cif_f n40
            have eq : pcl b k p = (1, (px b 1000 3 (fN 0) 0 (p + 1)).2.1, fN 0, (px b 1000 3 (fN 0) 0 (p + 1)).2.2) := (cif_t hL).trans ((cif_f (by omega)).trans ((cif_t c121).trans ((cif_t e1).trans (by unfold pib; rw [e0]))))
            rw [eq]
            exact ⟨rfl, (mf5.tr k2.mf).tr m3, fun z => absurd (show (1 : Nat) = 0 from z) (by decide), fun _ => e3.trans e45⟩
          ·
            have e45 := q3 e1
            clear q1 q2 q3
            have hbad : ¬ h2.1 MO 45 = 0 := by
              rw [e45]
              exact bdv_ne (by omega) (by omega) (by omega)
            refine ml_bad hok (k := k) (by omega) (by rw [k2.1]; exact hr5.s) hbad ((k2.2.2.1 46 rfl).trans hcl.1) (fun h3 m3 e3 => ?_)
            show ClM b n k R l p (pcl b k p) h none _
            have eq : pcl b k p = ((px b 1000 3 (fN 0) 0 (p + 1)).1, (px b 1000 3 (fN 0) 0 (p + 1)).2.1, fN 0, fN 0) := (cif_t hL).trans ((cif_f (by omega)).trans ((cif_t c121).trans (cif_f e1)))
            rw [eq]
            exact ⟨rfl, (mf5.tr k2.mf).tr m3, fun z => absurd (show (px b 1000 3 (fN 0) 0 (p + 1)).1 = 0 from z) e1, fun _ => e3.trans e45⟩
      ·
        refine g_aload_n (pc' := 58) dX12_clause_57 rfl rfl ?_
        refine g_iconstN (n := 4) (pc' := 59) dX12_clause_58 rfl ?_
        refine g_aload_n (pc' := 60) dX12_clause_59 rfl rfl ?_
        refine g_getIv (v := nI (p)) (pc' := 63) (k := 43) dX12_clause_60 rfl rfl ck_13 (by decide) fl_X12_262 rfl (h43) ?_
        refine g_invV (pc' := 66) (cm_wrong hok hg 4 p) dX12_clause_63 rfl rfl ck_13 rfl ml_X12_284 im_X12_wrongs sl_X12_wrongs in_X12 co_X12_wrongs pd_X12_wrongs rfl (by omega) (by decide) ⟨by decide, by decide⟩ (Nat.le_of_ble_eq_true rfl) ?_
        rintro _ _ ⟨rfl, rfl⟩ -
        refine g_aload_n (pc' := 67) dX12_clause_66 rfl rfl ?_
        refine g_invV (pc' := 70) (cm_bad hok (by rw [wI_same]; exact bdv_ne (by decide) (by decide) (by omega))) dX12_clause_67 rfl rfl ck_13 rfl ml_X12_271 im_X12_isGood sl_X12_isGood in_X12 co_X12_isGood pd_X12_isGood rfl (by omega) (by decide) ⟨by decide, by decide⟩ (Nat.le_of_ble_eq_true rfl) ?_
        rintro _ _ ⟨rfl, rfl⟩ -
        refine g_if_neN (tgt := 74) (pc' := 73) dX12_clause_70 rfl (by decide) (by decide) (fun q => False.elim (by revert q; decide)) (fun _ => ?_)
        refine g_vret dX12_clause_73 rfl (by decide) (by decide) ?_
        show ClM b n k R l p (pcl b k p) h none _
        have eq : pcl b k p = (4, p, fN 0, fN 0) := (cif_t hL).trans (cif_t (by omega))
        rw [eq]
        exact ⟨rfl, (MF.rf h).f (show 43 ≤ 45 ∧ 45 ≤ 51 by decide), fun z => absurd (show (4 : Nat) = 0 from z) (by decide), fun _ => wI_same _ _ _ _⟩
    ·
      refine g_iload_n (pc' := 19) dX12_clause_18 rfl rfl ?_
      refine g_bipushN (n := 119) (pc' := 21) dX12_clause_19 rfl (by decide) ?_
      refine g_icmp_eqN (tgt := 48) (pc' := 24) dX12_clause_21 rfl (by decide) (by omega) (by omega) (fun c21 => ?_) (fun c21 => ?_)
      ·
        have hL : isVn (b p) ∨ isNv (b p) := by
          first
          | exact Or.inl c9
          | exact Or.inr (by unfold isNv; omega)
        refine g_aload_n (pc' := 49) dX12_clause_48 rfl rfl ?_
        refine g_getIv (v := nI (k)) (pc' := 52) (k := 46) dX12_clause_49 rfl rfl ck_13 (by decide) fl_X12_364 rfl (hcl.1) ?_
        refine g_bipushN (n := 16) (pc' := 54) dX12_clause_52 rfl (by decide) ?_
        refine g_icmp_neN (tgt := 66) (pc' := 57) dX12_clause_54 rfl (by decide) (by omega) (by omega) (fun c54 => ?_) (fun c54 => ?_)
        ·
          refine g_aload_n (pc' := 67) dX12_clause_66 rfl rfl ?_
          refine g_invV (pc' := 70) (cm_good hok hg) dX12_clause_67 rfl rfl ck_13 rfl ml_X12_271 im_X12_isGood sl_X12_isGood in_X12 co_X12_isGood pd_X12_isGood rfl (by omega) (by decide) ⟨by decide, by decide⟩ (Nat.le_of_ble_eq_true rfl) ?_
          rintro _ _ ⟨rfl, rfl⟩ -
          refine g_if_neN (tgt := 74) (pc' := 73) dX12_clause_70 rfl (by decide) (by decide) (fun _ => ?_) (fun q => False.elim (by revert q; decide))
          have hlt : p < n := hb.lt (by unfold isVn isNv at hL; omega)
          refine g_aload_n (pc' := 75) dX12_clause_74 rfl rfl ?_
          refine g_getS (pc' := 78) (k := 37) (b := (137, 0)) dX12_clause_75 rfl rfl ck_13 (by decide) fl_X12_99 rfl hs rfl ?_
          refine g_aload_n (pc' := 79) dX12_clause_78 rfl rfl ?_
          refine g_getIv (v := nI (k)) (pc' := 82) (k := 46) dX12_clause_79 rfl rfl ck_13 (by decide) fl_X12_364 rfl (hcl.1) ?_
          refine g_iload_n (pc' := 83) dX12_clause_82 rfl rfl ?_
          refine g_iastN (pc' := 84) dX12_clause_83 rfl rfl (by decide) (by omega) ?_
          refine g_aload_n (pc' := 85) dX12_clause_84 rfl rfl ?_
          refine g_getS (pc' := 88) (k := 38) (b := (138, 0)) dX12_clause_85 rfl rfl ck_13 (by decide) fl_X12_102 rfl hs rfl ?_
          refine g_aload_n (pc' := 89) dX12_clause_88 rfl rfl ?_
          refine g_getIv (v := nI (k)) (pc' := 92) (k := 46) dX12_clause_89 rfl rfl ck_13 (by decide) fl_X12_364 rfl (hcl.1) ?_
          refine g_aload_n (pc' := 93) dX12_clause_92 rfl rfl ?_
          refine g_getIv (v := nI (c)) (pc' := 96) (k := 47) dX12_clause_93 rfl rfl ck_13 (by decide) fl_X12_275 rfl (h47) ?_
          refine g_iastN (pc' := 97) dX12_clause_96 rfl rfl (by decide) (by omega) ?_
          refine g_aload_n (pc' := 98) dX12_clause_97 rfl rfl ?_
          refine g_dup (pc' := 99) dX12_clause_98 rfl rfl ?_
          refine g_getIv (v := nI (p)) (pc' := 102) (k := 43) dX12_clause_99 rfl rfl ck_13 (by decide) fl_X12_262 rfl (h43) ?_
          refine g_iconstN (n := 1) (pc' := 103) dX12_clause_102 rfl ?_
          refine g_iaddN (pc' := 104) dX12_clause_103 rfl ?_
          refine g_putI (pc' := 107) (k := 43) dX12_clause_104 rfl rfl ck_13 (by decide) fl_X12_262 rfl rfl rfl rfl ?_
          refine g_aload_n (pc' := 108) dX12_clause_107 rfl rfl ?_
          refine g_iconstN (n := 0) (pc' := 109) dX12_clause_108 rfl ?_
          refine g_putI (pc' := 112) (k := 49) dX12_clause_109 rfl rfl ck_13 (by decide) fl_X12_278 rfl rfl rfl rfl ?_
          refine g_aload_n (pc' := 113) dX12_clause_112 rfl rfl ?_
          refine g_iconstN (n := 0) (pc' := 114) dX12_clause_113 rfl ?_
          refine g_putI (pc' := 117) (k := 48) dX12_clause_114 rfl rfl ck_13 (by decide) fl_X12_281 rfl rfl rfl rfl ?_
          have mf5 : MF h (wI (wI (wI (wI (wI h (137, 0) k (nI (b p))) (138, 0) k (nI c)) MO 43 (nI (p + 1))) MO 49 (nI 0)) MO 48 (nI 0)) := ((((((MF.rf h).a (show 137 ≤ 137 ∧ 137 ≤ 142 by decide)).a (show 137 ≤ 138 ∧ 138 ≤ 142 by decide)).f (show 43 ≤ 43 ∧ 43 ≤ 51 by decide)).f (show 43 ≤ 49 ∧ 49 ≤ 51 by decide)).f (show 43 ≤ 48 ∧ 48 ≤ 51 by decide))
          have hr5 : RS b n (p + 1) c 0 0 (wI (wI (wI (wI (wI h (137, 0) k (nI (b p))) (138, 0) k (nI c)) MO 43 (nI (p + 1))) MO 49 (nI 0)) MO 48 (nI 0)) := ⟨ht.mf mf5 rfl, rfl, h47, rfl, rfl, hg, by omega, by omega⟩
          have h37 : (wI (wI (wI (wI (wI h (137, 0) k (nI (b p))) (138, 0) k (nI c)) MO 43 (nI (p + 1))) MO 49 (nI 0)) MO 48 (nI 0)).1 (137, 0) k = nI (b p) := wI_same h (137, 0) k (nI (b p))
          have h38 : (wI (wI (wI (wI (wI h (137, 0) k (nI (b p))) (138, 0) k (nI c)) MO 43 (nI (p + 1))) MO 49 (nI 0)) MO 48 (nI 0)).1 (138, 0) k = nI c := wI_same (wI h (137, 0) k (nI (b p))) (138, 0) k (nI c)
          have hcl5 : ∀ j, j < k → l j < 256 ∧ C1r (R j) (l j) c (wI (wI (wI (wI (wI h (137, 0) k (nI (b p))) (138, 0) k (nI c)) MO 43 (nI (p + 1))) MO 49 (nI 0)) MO 48 (nI 0)) j := fun j hj => ⟨(hcl.2 j hj).1, (hcl.2 j hj).2.kept (Nat.le_refl c) (fun a z1 z2 => by rw [wI_off _ _ _ _ _ (ad2_ne (by omega)), wI_off _ _ _ _ _ (ad2_ne (by omega)), wI_off _ _ _ _ _ (ad2_ne (by omega)), wI_j (by omega), wI_j (by omega)]) (fun t _ => ⟨rfl, rfl⟩)⟩
          refine g_iload_n (pc' := 118) dX12_clause_117 rfl rfl ?_
          refine g_invS (pc' := 121) (cm_isVn hok (hb.2.1 p)) dX12_clause_118 rfl ml_X12_361 st_X12_hasSum in_X12 co_X12_hasSum pd_X12_hasSum rfl (by omega) (by decide) ⟨by decide, by decide⟩ (Nat.le_of_ble_eq_true rfl) ?_
          rintro _ _ ⟨rfl, rfl⟩ -
          refine g_ifB_eq (tgt := 128) (pc' := 124) dX12_clause_121 rfl (by decide) (fun c121 => ?_) (fun c121 => ?_)
          ·
            have eq : pcl b k p = pib b (p + 1) (fN 0) := (cif_t hL).trans ((cif_f (by omega)).trans (cif_f c121))
            exact ml_tail (c := c) (x := c) (S := fN 0) (R := R) (l := l) hok hb (by omega) (fun h2 z => by show ClM b n k R l p (pcl b k p) h none h2; rw [eq]; exact z) mf5 hr5 hcl.1 (Nat.le_refl c) hcl5 h37 h38 (fun z => absurd z c121)
          ·
            refine g_aload_n (pc' := 125) dX12_clause_124 rfl rfl ?_
            refine g_invV (pc' := 128) (cm_value hok (fN 0) hb hr5 (by decide) (g := 0) (by decide) rfl (by unfold isTm isPl; omega) (by decide)) dX12_clause_125 rfl rfl ck_13 rfl ml_X12_340 im_X12_value sl_X12_value in_X12 co_X12_value pd_X12_value rfl (by omega) (by decide) ⟨by decide, by decide⟩ (Nat.le_of_ble_eq_true rfl) ?_
            rintro _ h2 ⟨rfl, k2, q1, q2, q3⟩ -
            have pk := px_ok hb 1000 3 (fN 0) 0 (p + 1) (by omega)
            have pk1 := pk.1
            have pk2 := pk.2.1
            rcases em3 ((px b 1000 3 (fN 0) 0 (p + 1)).1 = 0) (b (px b 1000 3 (fN 0) 0 (p + 1)).2.1 = 93) with ⟨e1, e2⟩ | ⟨e1, e2⟩ | e1
            ·
              obtain ⟨c1, l1, hr1, sr1⟩ := q1 e1 e2
              clear q1 q2 q3
              have eq : pcl b k p = pib b (px b 1000 3 (fN 0) 0 (p + 1)).2.1 (px b 1000 3 (fN 0) 0 (p + 1)).2.2 := (cif_t hL).trans ((cif_f (by omega)).trans ((cif_t c121).trans (cif_t e1)))
              have frm : ∀ a : Nat, 137 ≤ a → a ≤ 140 → h2.1 (a, 0) = (wI (wI (wI (wI (wI h (137, 0) k (nI (b p))) (138, 0) k (nI c)) MO 43 (nI (p + 1))) MO 49 (nI 0)) MO 48 (nI 0)).1 (a, 0) := (fun a z1 z2 => k2.2.1 (a, 0) (ad2_ne (by omega)) (ad2_ne (by omega)) (ad2_ne (by omega)) (ad2_ne (by omega)))
              refine ml_tail (c := c1) (x := c) (S := (px b 1000 3 (fN 0) 0 (p + 1)).2.2) (R := R) (l := l) hok hb (by omega) (fun h3 z => by show ClM b n k R l p (pcl b k p) h none h3; rw [eq]; exact z) (mf5.tr k2.mf) hr1 ((k2.2.2.1 46 rfl).trans hcl.1) (Nat.le_refl c1) (fun j hj => ⟨(hcl5 j hj).1, ?_⟩) ?_ ?_ (fun _ => sr1)
              · exact (hcl5 j hj).2.kept (by omega) (fun a z1 z2 => by rw [frm a z1 z2]) (fun t ht => k2.2.2.2.1 t ht)
              · rw [frm 137 (by decide) (by decide)]; exact h37
              · rw [frm 138 (by decide) (by decide)]; exact h38
            ·
              have e45 := q2 e1 e2
              clear q1 q2 q3
              have hbad : ¬ h2.1 MO 45 = 0 := by
                rw [e45]
                exact bdv_ne (by omega) (by omega) (by omega)
              refine ml_bad hok (k := k) (by omega) (by rw [k2.1]; exact hr5.s) hbad ((k2.2.2.1 46 rfl).trans hcl.1) (fun h3 m3 e3 => ?_)
              show ClM b n k R l p (pcl b k p) h none _
              have n40 : ¬ b (px b 1000 3 (fN 0) 0 (p + 1)).2.1 = 40 := by omega
              have e0 : pc b 1300 2 (fN 0) 0 (px b 1000 3 (fN 0) 0 (p + 1)).2.1 = (1, (px b 1000 3 (fN 0) 0 (p + 1)).2.1, fN 0) := cif_f n40
              have eq : pcl b k p = (1, (px b 1000 3 (fN 0) 0 (p + 1)).2.1, fN 0, (px b 1000 3 (fN 0) 0 (p + 1)).2.2) := (cif_t hL).trans ((cif_f (by omega)).trans ((cif_t c121).trans ((cif_t e1).trans (by unfold pib; rw [e0]))))
              rw [eq]
              exact ⟨rfl, (mf5.tr k2.mf).tr m3, fun z => absurd (show (1 : Nat) = 0 from z) (by decide), fun _ => e3.trans e45⟩
            ·
              have e45 := q3 e1
              clear q1 q2 q3
              have hbad : ¬ h2.1 MO 45 = 0 := by
                rw [e45]
                exact bdv_ne (by omega) (by omega) (by omega)
              refine ml_bad hok (k := k) (by omega) (by rw [k2.1]; exact hr5.s) hbad ((k2.2.2.1 46 rfl).trans hcl.1) (fun h3 m3 e3 => ?_)
              show ClM b n k R l p (pcl b k p) h none _
              have eq : pcl b k p = ((px b 1000 3 (fN 0) 0 (p + 1)).1, (px b 1000 3 (fN 0) 0 (p + 1)).2.1, fN 0, fN 0) := (cif_t hL).trans ((cif_f (by omega)).trans ((cif_t c121).trans (cif_f e1)))
              rw [eq]
              exact ⟨rfl, (mf5.tr k2.mf).tr m3, fun z => absurd (show (px b 1000 3 (fN 0) 0 (p + 1)).1 = 0 from z) e1, fun _ => e3.trans e45⟩
        ·
          refine g_aload_n (pc' := 58) dX12_clause_57 rfl rfl ?_
          refine g_iconstN (n := 4) (pc' := 59) dX12_clause_58 rfl ?_
          refine g_aload_n (pc' := 60) dX12_clause_59 rfl rfl ?_
          refine g_getIv (v := nI (p)) (pc' := 63) (k := 43) dX12_clause_60 rfl rfl ck_13 (by decide) fl_X12_262 rfl (h43) ?_
          refine g_invV (pc' := 66) (cm_wrong hok hg 4 p) dX12_clause_63 rfl rfl ck_13 rfl ml_X12_284 im_X12_wrongs sl_X12_wrongs in_X12 co_X12_wrongs pd_X12_wrongs rfl (by omega) (by decide) ⟨by decide, by decide⟩ (Nat.le_of_ble_eq_true rfl) ?_
          rintro _ _ ⟨rfl, rfl⟩ -
          refine g_aload_n (pc' := 67) dX12_clause_66 rfl rfl ?_
          refine g_invV (pc' := 70) (cm_bad hok (by rw [wI_same]; exact bdv_ne (by decide) (by decide) (by omega))) dX12_clause_67 rfl rfl ck_13 rfl ml_X12_271 im_X12_isGood sl_X12_isGood in_X12 co_X12_isGood pd_X12_isGood rfl (by omega) (by decide) ⟨by decide, by decide⟩ (Nat.le_of_ble_eq_true rfl) ?_
          rintro _ _ ⟨rfl, rfl⟩ -
          refine g_if_neN (tgt := 74) (pc' := 73) dX12_clause_70 rfl (by decide) (by decide) (fun q => False.elim (by revert q; decide)) (fun _ => ?_)
          refine g_vret dX12_clause_73 rfl (by decide) (by decide) ?_
          show ClM b n k R l p (pcl b k p) h none _
          have eq : pcl b k p = (4, p, fN 0, fN 0) := (cif_t hL).trans (cif_t (by omega))
          rw [eq]
          exact ⟨rfl, (MF.rf h).f (show 43 ≤ 45 ∧ 45 ≤ 51 by decide), fun z => absurd (show (4 : Nat) = 0 from z) (by decide), fun _ => wI_same _ _ _ _⟩
      ·
        refine g_iload_n (pc' := 25) dX12_clause_24 rfl rfl ?_
        refine g_bipushN (n := 111) (pc' := 27) dX12_clause_25 rfl (by decide) ?_
        refine g_icmp_eqN (tgt := 48) (pc' := 30) dX12_clause_27 rfl (by decide) (by omega) (by omega) (fun c27 => ?_) (fun c27 => ?_)
        ·
          have hL : isVn (b p) ∨ isNv (b p) := by
            first
            | exact Or.inl c9
            | exact Or.inr (by unfold isNv; omega)
          refine g_aload_n (pc' := 49) dX12_clause_48 rfl rfl ?_
          refine g_getIv (v := nI (k)) (pc' := 52) (k := 46) dX12_clause_49 rfl rfl ck_13 (by decide) fl_X12_364 rfl (hcl.1) ?_
          refine g_bipushN (n := 16) (pc' := 54) dX12_clause_52 rfl (by decide) ?_
          refine g_icmp_neN (tgt := 66) (pc' := 57) dX12_clause_54 rfl (by decide) (by omega) (by omega) (fun c54 => ?_) (fun c54 => ?_)
          ·
            refine g_aload_n (pc' := 67) dX12_clause_66 rfl rfl ?_
            refine g_invV (pc' := 70) (cm_good hok hg) dX12_clause_67 rfl rfl ck_13 rfl ml_X12_271 im_X12_isGood sl_X12_isGood in_X12 co_X12_isGood pd_X12_isGood rfl (by omega) (by decide) ⟨by decide, by decide⟩ (Nat.le_of_ble_eq_true rfl) ?_
            rintro _ _ ⟨rfl, rfl⟩ -
            refine g_if_neN (tgt := 74) (pc' := 73) dX12_clause_70 rfl (by decide) (by decide) (fun _ => ?_) (fun q => False.elim (by revert q; decide))
            have hlt : p < n := hb.lt (by unfold isVn isNv at hL; omega)
            refine g_aload_n (pc' := 75) dX12_clause_74 rfl rfl ?_
            refine g_getS (pc' := 78) (k := 37) (b := (137, 0)) dX12_clause_75 rfl rfl ck_13 (by decide) fl_X12_99 rfl hs rfl ?_
            refine g_aload_n (pc' := 79) dX12_clause_78 rfl rfl ?_
            refine g_getIv (v := nI (k)) (pc' := 82) (k := 46) dX12_clause_79 rfl rfl ck_13 (by decide) fl_X12_364 rfl (hcl.1) ?_
            refine g_iload_n (pc' := 83) dX12_clause_82 rfl rfl ?_
            refine g_iastN (pc' := 84) dX12_clause_83 rfl rfl (by decide) (by omega) ?_
            refine g_aload_n (pc' := 85) dX12_clause_84 rfl rfl ?_
            refine g_getS (pc' := 88) (k := 38) (b := (138, 0)) dX12_clause_85 rfl rfl ck_13 (by decide) fl_X12_102 rfl hs rfl ?_
            refine g_aload_n (pc' := 89) dX12_clause_88 rfl rfl ?_
            refine g_getIv (v := nI (k)) (pc' := 92) (k := 46) dX12_clause_89 rfl rfl ck_13 (by decide) fl_X12_364 rfl (hcl.1) ?_
            refine g_aload_n (pc' := 93) dX12_clause_92 rfl rfl ?_
            refine g_getIv (v := nI (c)) (pc' := 96) (k := 47) dX12_clause_93 rfl rfl ck_13 (by decide) fl_X12_275 rfl (h47) ?_
            refine g_iastN (pc' := 97) dX12_clause_96 rfl rfl (by decide) (by omega) ?_
            refine g_aload_n (pc' := 98) dX12_clause_97 rfl rfl ?_
            refine g_dup (pc' := 99) dX12_clause_98 rfl rfl ?_
            refine g_getIv (v := nI (p)) (pc' := 102) (k := 43) dX12_clause_99 rfl rfl ck_13 (by decide) fl_X12_262 rfl (h43) ?_
            refine g_iconstN (n := 1) (pc' := 103) dX12_clause_102 rfl ?_
            refine g_iaddN (pc' := 104) dX12_clause_103 rfl ?_
            refine g_putI (pc' := 107) (k := 43) dX12_clause_104 rfl rfl ck_13 (by decide) fl_X12_262 rfl rfl rfl rfl ?_
            refine g_aload_n (pc' := 108) dX12_clause_107 rfl rfl ?_
            refine g_iconstN (n := 0) (pc' := 109) dX12_clause_108 rfl ?_
            refine g_putI (pc' := 112) (k := 49) dX12_clause_109 rfl rfl ck_13 (by decide) fl_X12_278 rfl rfl rfl rfl ?_
            refine g_aload_n (pc' := 113) dX12_clause_112 rfl rfl ?_
            refine g_iconstN (n := 0) (pc' := 114) dX12_clause_113 rfl ?_
            refine g_putI (pc' := 117) (k := 48) dX12_clause_114 rfl rfl ck_13 (by decide) fl_X12_281 rfl rfl rfl rfl ?_
            have mf5 : MF h (wI (wI (wI (wI (wI h (137, 0) k (nI (b p))) (138, 0) k (nI c)) MO 43 (nI (p + 1))) MO 49 (nI 0)) MO 48 (nI 0)) := ((((((MF.rf h).a (show 137 ≤ 137 ∧ 137 ≤ 142 by decide)).a (show 137 ≤ 138 ∧ 138 ≤ 142 by decide)).f (show 43 ≤ 43 ∧ 43 ≤ 51 by decide)).f (show 43 ≤ 49 ∧ 49 ≤ 51 by decide)).f (show 43 ≤ 48 ∧ 48 ≤ 51 by decide))
            have hr5 : RS b n (p + 1) c 0 0 (wI (wI (wI (wI (wI h (137, 0) k (nI (b p))) (138, 0) k (nI c)) MO 43 (nI (p + 1))) MO 49 (nI 0)) MO 48 (nI 0)) := ⟨ht.mf mf5 rfl, rfl, h47, rfl, rfl, hg, by omega, by omega⟩
            have h37 : (wI (wI (wI (wI (wI h (137, 0) k (nI (b p))) (138, 0) k (nI c)) MO 43 (nI (p + 1))) MO 49 (nI 0)) MO 48 (nI 0)).1 (137, 0) k = nI (b p) := wI_same h (137, 0) k (nI (b p))
            have h38 : (wI (wI (wI (wI (wI h (137, 0) k (nI (b p))) (138, 0) k (nI c)) MO 43 (nI (p + 1))) MO 49 (nI 0)) MO 48 (nI 0)).1 (138, 0) k = nI c := wI_same (wI h (137, 0) k (nI (b p))) (138, 0) k (nI c)
            have hcl5 : ∀ j, j < k → l j < 256 ∧ C1r (R j) (l j) c (wI (wI (wI (wI (wI h (137, 0) k (nI (b p))) (138, 0) k (nI c)) MO 43 (nI (p + 1))) MO 49 (nI 0)) MO 48 (nI 0)) j := fun j hj => ⟨(hcl.2 j hj).1, (hcl.2 j hj).2.kept (Nat.le_refl c) (fun a z1 z2 => by rw [wI_off _ _ _ _ _ (ad2_ne (by omega)), wI_off _ _ _ _ _ (ad2_ne (by omega)), wI_off _ _ _ _ _ (ad2_ne (by omega)), wI_j (by omega), wI_j (by omega)]) (fun t _ => ⟨rfl, rfl⟩)⟩
            refine g_iload_n (pc' := 118) dX12_clause_117 rfl rfl ?_
            refine g_invS (pc' := 121) (cm_isVn hok (hb.2.1 p)) dX12_clause_118 rfl ml_X12_361 st_X12_hasSum in_X12 co_X12_hasSum pd_X12_hasSum rfl (by omega) (by decide) ⟨by decide, by decide⟩ (Nat.le_of_ble_eq_true rfl) ?_
            rintro _ _ ⟨rfl, rfl⟩ -
            refine g_ifB_eq (tgt := 128) (pc' := 124) dX12_clause_121 rfl (by decide) (fun c121 => ?_) (fun c121 => ?_)
            ·
              have eq : pcl b k p = pib b (p + 1) (fN 0) := (cif_t hL).trans ((cif_f (by omega)).trans (cif_f c121))
              exact ml_tail (c := c) (x := c) (S := fN 0) (R := R) (l := l) hok hb (by omega) (fun h2 z => by show ClM b n k R l p (pcl b k p) h none h2; rw [eq]; exact z) mf5 hr5 hcl.1 (Nat.le_refl c) hcl5 h37 h38 (fun z => absurd z c121)
            ·
              refine g_aload_n (pc' := 125) dX12_clause_124 rfl rfl ?_
              refine g_invV (pc' := 128) (cm_value hok (fN 0) hb hr5 (by decide) (g := 0) (by decide) rfl (by unfold isTm isPl; omega) (by decide)) dX12_clause_125 rfl rfl ck_13 rfl ml_X12_340 im_X12_value sl_X12_value in_X12 co_X12_value pd_X12_value rfl (by omega) (by decide) ⟨by decide, by decide⟩ (Nat.le_of_ble_eq_true rfl) ?_
              rintro _ h2 ⟨rfl, k2, q1, q2, q3⟩ -
              have pk := px_ok hb 1000 3 (fN 0) 0 (p + 1) (by omega)
              have pk1 := pk.1
              have pk2 := pk.2.1
              rcases em3 ((px b 1000 3 (fN 0) 0 (p + 1)).1 = 0) (b (px b 1000 3 (fN 0) 0 (p + 1)).2.1 = 93) with ⟨e1, e2⟩ | ⟨e1, e2⟩ | e1
              ·
                obtain ⟨c1, l1, hr1, sr1⟩ := q1 e1 e2
                clear q1 q2 q3
                have eq : pcl b k p = pib b (px b 1000 3 (fN 0) 0 (p + 1)).2.1 (px b 1000 3 (fN 0) 0 (p + 1)).2.2 := (cif_t hL).trans ((cif_f (by omega)).trans ((cif_t c121).trans (cif_t e1)))
                have frm : ∀ a : Nat, 137 ≤ a → a ≤ 140 → h2.1 (a, 0) = (wI (wI (wI (wI (wI h (137, 0) k (nI (b p))) (138, 0) k (nI c)) MO 43 (nI (p + 1))) MO 49 (nI 0)) MO 48 (nI 0)).1 (a, 0) := (fun a z1 z2 => k2.2.1 (a, 0) (ad2_ne (by omega)) (ad2_ne (by omega)) (ad2_ne (by omega)) (ad2_ne (by omega)))
                refine ml_tail (c := c1) (x := c) (S := (px b 1000 3 (fN 0) 0 (p + 1)).2.2) (R := R) (l := l) hok hb (by omega) (fun h3 z => by show ClM b n k R l p (pcl b k p) h none h3; rw [eq]; exact z) (mf5.tr k2.mf) hr1 ((k2.2.2.1 46 rfl).trans hcl.1) (Nat.le_refl c1) (fun j hj => ⟨(hcl5 j hj).1, ?_⟩) ?_ ?_ (fun _ => sr1)
                · exact (hcl5 j hj).2.kept (by omega) (fun a z1 z2 => by rw [frm a z1 z2]) (fun t ht => k2.2.2.2.1 t ht)
                · rw [frm 137 (by decide) (by decide)]; exact h37
                · rw [frm 138 (by decide) (by decide)]; exact h38
              ·
                have e45 := q2 e1 e2
                clear q1 q2 q3
                have hbad : ¬ h2.1 MO 45 = 0 := by
                  rw [e45]
                  exact bdv_ne (by omega) (by omega) (by omega)
                refine ml_bad hok (k := k) (by omega) (by rw [k2.1]; exact hr5.s) hbad ((k2.2.2.1 46 rfl).trans hcl.1) (fun h3 m3 e3 => ?_)
                show ClM b n k R l p (pcl b k p) h none _
                have n40 : ¬ b (px b 1000 3 (fN 0) 0 (p + 1)).2.1 = 40 := by omega
                have e0 : pc b 1300 2 (fN 0) 0 (px b 1000 3 (fN 0) 0 (p + 1)).2.1 = (1, (px b 1000 3 (fN 0) 0 (p + 1)).2.1, fN 0) := cif_f n40
                have eq : pcl b k p = (1, (px b 1000 3 (fN 0) 0 (p + 1)).2.1, fN 0, (px b 1000 3 (fN 0) 0 (p + 1)).2.2) := (cif_t hL).trans ((cif_f (by omega)).trans ((cif_t c121).trans ((cif_t e1).trans (by unfold pib; rw [e0]))))
                rw [eq]
                exact ⟨rfl, (mf5.tr k2.mf).tr m3, fun z => absurd (show (1 : Nat) = 0 from z) (by decide), fun _ => e3.trans e45⟩
              ·
                have e45 := q3 e1
                clear q1 q2 q3
                have hbad : ¬ h2.1 MO 45 = 0 := by
                  rw [e45]
                  exact bdv_ne (by omega) (by omega) (by omega)
                refine ml_bad hok (k := k) (by omega) (by rw [k2.1]; exact hr5.s) hbad ((k2.2.2.1 46 rfl).trans hcl.1) (fun h3 m3 e3 => ?_)
                show ClM b n k R l p (pcl b k p) h none _
                have eq : pcl b k p = ((px b 1000 3 (fN 0) 0 (p + 1)).1, (px b 1000 3 (fN 0) 0 (p + 1)).2.1, fN 0, fN 0) := (cif_t hL).trans ((cif_f (by omega)).trans ((cif_t c121).trans (cif_f e1)))
                rw [eq]
                exact ⟨rfl, (mf5.tr k2.mf).tr m3, fun z => absurd (show (px b 1000 3 (fN 0) 0 (p + 1)).1 = 0 from z) e1, fun _ => e3.trans e45⟩
          ·
            refine g_aload_n (pc' := 58) dX12_clause_57 rfl rfl ?_
            refine g_iconstN (n := 4) (pc' := 59) dX12_clause_58 rfl ?_
            refine g_aload_n (pc' := 60) dX12_clause_59 rfl rfl ?_
            refine g_getIv (v := nI (p)) (pc' := 63) (k := 43) dX12_clause_60 rfl rfl ck_13 (by decide) fl_X12_262 rfl (h43) ?_
            refine g_invV (pc' := 66) (cm_wrong hok hg 4 p) dX12_clause_63 rfl rfl ck_13 rfl ml_X12_284 im_X12_wrongs sl_X12_wrongs in_X12 co_X12_wrongs pd_X12_wrongs rfl (by omega) (by decide) ⟨by decide, by decide⟩ (Nat.le_of_ble_eq_true rfl) ?_
            rintro _ _ ⟨rfl, rfl⟩ -
            refine g_aload_n (pc' := 67) dX12_clause_66 rfl rfl ?_
            refine g_invV (pc' := 70) (cm_bad hok (by rw [wI_same]; exact bdv_ne (by decide) (by decide) (by omega))) dX12_clause_67 rfl rfl ck_13 rfl ml_X12_271 im_X12_isGood sl_X12_isGood in_X12 co_X12_isGood pd_X12_isGood rfl (by omega) (by decide) ⟨by decide, by decide⟩ (Nat.le_of_ble_eq_true rfl) ?_
            rintro _ _ ⟨rfl, rfl⟩ -
            refine g_if_neN (tgt := 74) (pc' := 73) dX12_clause_70 rfl (by decide) (by decide) (fun q => False.elim (by revert q; decide)) (fun _ => ?_)
            refine g_vret dX12_clause_73 rfl (by decide) (by decide) ?_
            show ClM b n k R l p (pcl b k p) h none _
            have eq : pcl b k p = (4, p, fN 0, fN 0) := (cif_t hL).trans (cif_t (by omega))
            rw [eq]
            exact ⟨rfl, (MF.rf h).f (show 43 ≤ 45 ∧ 45 ≤ 51 by decide), fun z => absurd (show (4 : Nat) = 0 from z) (by decide), fun _ => wI_same _ _ _ _⟩
        ·
          refine g_iload_n (pc' := 31) dX12_clause_30 rfl rfl ?_
          refine g_bipushN (n := 117) (pc' := 33) dX12_clause_31 rfl (by decide) ?_
          refine g_icmp_eqN (tgt := 48) (pc' := 36) dX12_clause_33 rfl (by decide) (by omega) (by omega) (fun c33 => ?_) (fun c33 => ?_)
          ·
            have hL : isVn (b p) ∨ isNv (b p) := by
              first
              | exact Or.inl c9
              | exact Or.inr (by unfold isNv; omega)
            refine g_aload_n (pc' := 49) dX12_clause_48 rfl rfl ?_
            refine g_getIv (v := nI (k)) (pc' := 52) (k := 46) dX12_clause_49 rfl rfl ck_13 (by decide) fl_X12_364 rfl (hcl.1) ?_
            refine g_bipushN (n := 16) (pc' := 54) dX12_clause_52 rfl (by decide) ?_
            refine g_icmp_neN (tgt := 66) (pc' := 57) dX12_clause_54 rfl (by decide) (by omega) (by omega) (fun c54 => ?_) (fun c54 => ?_)
            ·
              refine g_aload_n (pc' := 67) dX12_clause_66 rfl rfl ?_
              refine g_invV (pc' := 70) (cm_good hok hg) dX12_clause_67 rfl rfl ck_13 rfl ml_X12_271 im_X12_isGood sl_X12_isGood in_X12 co_X12_isGood pd_X12_isGood rfl (by omega) (by decide) ⟨by decide, by decide⟩ (Nat.le_of_ble_eq_true rfl) ?_
              rintro _ _ ⟨rfl, rfl⟩ -
              refine g_if_neN (tgt := 74) (pc' := 73) dX12_clause_70 rfl (by decide) (by decide) (fun _ => ?_) (fun q => False.elim (by revert q; decide))
              have hlt : p < n := hb.lt (by unfold isVn isNv at hL; omega)
              refine g_aload_n (pc' := 75) dX12_clause_74 rfl rfl ?_
              refine g_getS (pc' := 78) (k := 37) (b := (137, 0)) dX12_clause_75 rfl rfl ck_13 (by decide) fl_X12_99 rfl hs rfl ?_
              refine g_aload_n (pc' := 79) dX12_clause_78 rfl rfl ?_
              refine g_getIv (v := nI (k)) (pc' := 82) (k := 46) dX12_clause_79 rfl rfl ck_13 (by decide) fl_X12_364 rfl (hcl.1) ?_
              refine g_iload_n (pc' := 83) dX12_clause_82 rfl rfl ?_
              refine g_iastN (pc' := 84) dX12_clause_83 rfl rfl (by decide) (by omega) ?_
              refine g_aload_n (pc' := 85) dX12_clause_84 rfl rfl ?_
              refine g_getS (pc' := 88) (k := 38) (b := (138, 0)) dX12_clause_85 rfl rfl ck_13 (by decide) fl_X12_102 rfl hs rfl ?_
              refine g_aload_n (pc' := 89) dX12_clause_88 rfl rfl ?_
              refine g_getIv (v := nI (k)) (pc' := 92) (k := 46) dX12_clause_89 rfl rfl ck_13 (by decide) fl_X12_364 rfl (hcl.1) ?_
              refine g_aload_n (pc' := 93) dX12_clause_92 rfl rfl ?_
              refine g_getIv (v := nI (c)) (pc' := 96) (k := 47) dX12_clause_93 rfl rfl ck_13 (by decide) fl_X12_275 rfl (h47) ?_
              refine g_iastN (pc' := 97) dX12_clause_96 rfl rfl (by decide) (by omega) ?_
              refine g_aload_n (pc' := 98) dX12_clause_97 rfl rfl ?_
              refine g_dup (pc' := 99) dX12_clause_98 rfl rfl ?_
              refine g_getIv (v := nI (p)) (pc' := 102) (k := 43) dX12_clause_99 rfl rfl ck_13 (by decide) fl_X12_262 rfl (h43) ?_
              refine g_iconstN (n := 1) (pc' := 103) dX12_clause_102 rfl ?_
              refine g_iaddN (pc' := 104) dX12_clause_103 rfl ?_
              refine g_putI (pc' := 107) (k := 43) dX12_clause_104 rfl rfl ck_13 (by decide) fl_X12_262 rfl rfl rfl rfl ?_
              refine g_aload_n (pc' := 108) dX12_clause_107 rfl rfl ?_
              refine g_iconstN (n := 0) (pc' := 109) dX12_clause_108 rfl ?_
              refine g_putI (pc' := 112) (k := 49) dX12_clause_109 rfl rfl ck_13 (by decide) fl_X12_278 rfl rfl rfl rfl ?_
              refine g_aload_n (pc' := 113) dX12_clause_112 rfl rfl ?_
              refine g_iconstN (n := 0) (pc' := 114) dX12_clause_113 rfl ?_
              refine g_putI (pc' := 117) (k := 48) dX12_clause_114 rfl rfl ck_13 (by decide) fl_X12_281 rfl rfl rfl rfl ?_
              have mf5 : MF h (wI (wI (wI (wI (wI h (137, 0) k (nI (b p))) (138, 0) k (nI c)) MO 43 (nI (p + 1))) MO 49 (nI 0)) MO 48 (nI 0)) := ((((((MF.rf h).a (show 137 ≤ 137 ∧ 137 ≤ 142 by decide)).a (show 137 ≤ 138 ∧ 138 ≤ 142 by decide)).f (show 43 ≤ 43 ∧ 43 ≤ 51 by decide)).f (show 43 ≤ 49 ∧ 49 ≤ 51 by decide)).f (show 43 ≤ 48 ∧ 48 ≤ 51 by decide))
              have hr5 : RS b n (p + 1) c 0 0 (wI (wI (wI (wI (wI h (137, 0) k (nI (b p))) (138, 0) k (nI c)) MO 43 (nI (p + 1))) MO 49 (nI 0)) MO 48 (nI 0)) := ⟨ht.mf mf5 rfl, rfl, h47, rfl, rfl, hg, by omega, by omega⟩
              have h37 : (wI (wI (wI (wI (wI h (137, 0) k (nI (b p))) (138, 0) k (nI c)) MO 43 (nI (p + 1))) MO 49 (nI 0)) MO 48 (nI 0)).1 (137, 0) k = nI (b p) := wI_same h (137, 0) k (nI (b p))
              have h38 : (wI (wI (wI (wI (wI h (137, 0) k (nI (b p))) (138, 0) k (nI c)) MO 43 (nI (p + 1))) MO 49 (nI 0)) MO 48 (nI 0)).1 (138, 0) k = nI c := wI_same (wI h (137, 0) k (nI (b p))) (138, 0) k (nI c)
              have hcl5 : ∀ j, j < k → l j < 256 ∧ C1r (R j) (l j) c (wI (wI (wI (wI (wI h (137, 0) k (nI (b p))) (138, 0) k (nI c)) MO 43 (nI (p + 1))) MO 49 (nI 0)) MO 48 (nI 0)) j := fun j hj => ⟨(hcl.2 j hj).1, (hcl.2 j hj).2.kept (Nat.le_refl c) (fun a z1 z2 => by rw [wI_off _ _ _ _ _ (ad2_ne (by omega)), wI_off _ _ _ _ _ (ad2_ne (by omega)), wI_off _ _ _ _ _ (ad2_ne (by omega)), wI_j (by omega), wI_j (by omega)]) (fun t _ => ⟨rfl, rfl⟩)⟩
              refine g_iload_n (pc' := 118) dX12_clause_117 rfl rfl ?_
              refine g_invS (pc' := 121) (cm_isVn hok (hb.2.1 p)) dX12_clause_118 rfl ml_X12_361 st_X12_hasSum in_X12 co_X12_hasSum pd_X12_hasSum rfl (by omega) (by decide) ⟨by decide, by decide⟩ (Nat.le_of_ble_eq_true rfl) ?_
              rintro _ _ ⟨rfl, rfl⟩ -
              refine g_ifB_eq (tgt := 128) (pc' := 124) dX12_clause_121 rfl (by decide) (fun c121 => ?_) (fun c121 => ?_)
              ·
                have eq : pcl b k p = pib b (p + 1) (fN 0) := (cif_t hL).trans ((cif_f (by omega)).trans (cif_f c121))
                exact ml_tail (c := c) (x := c) (S := fN 0) (R := R) (l := l) hok hb (by omega) (fun h2 z => by show ClM b n k R l p (pcl b k p) h none h2; rw [eq]; exact z) mf5 hr5 hcl.1 (Nat.le_refl c) hcl5 h37 h38 (fun z => absurd z c121)
              ·
                refine g_aload_n (pc' := 125) dX12_clause_124 rfl rfl ?_
                refine g_invV (pc' := 128) (cm_value hok (fN 0) hb hr5 (by decide) (g := 0) (by decide) rfl (by unfold isTm isPl; omega) (by decide)) dX12_clause_125 rfl rfl ck_13 rfl ml_X12_340 im_X12_value sl_X12_value in_X12 co_X12_value pd_X12_value rfl (by omega) (by decide) ⟨by decide, by decide⟩ (Nat.le_of_ble_eq_true rfl) ?_
                rintro _ h2 ⟨rfl, k2, q1, q2, q3⟩ -
                have pk := px_ok hb 1000 3 (fN 0) 0 (p + 1) (by omega)
                have pk1 := pk.1
                have pk2 := pk.2.1
                rcases em3 ((px b 1000 3 (fN 0) 0 (p + 1)).1 = 0) (b (px b 1000 3 (fN 0) 0 (p + 1)).2.1 = 93) with ⟨e1, e2⟩ | ⟨e1, e2⟩ | e1
                ·
                  obtain ⟨c1, l1, hr1, sr1⟩ := q1 e1 e2
                  clear q1 q2 q3
                  have eq : pcl b k p = pib b (px b 1000 3 (fN 0) 0 (p + 1)).2.1 (px b 1000 3 (fN 0) 0 (p + 1)).2.2 := (cif_t hL).trans ((cif_f (by omega)).trans ((cif_t c121).trans (cif_t e1)))
                  have frm : ∀ a : Nat, 137 ≤ a → a ≤ 140 → h2.1 (a, 0) = (wI (wI (wI (wI (wI h (137, 0) k (nI (b p))) (138, 0) k (nI c)) MO 43 (nI (p + 1))) MO 49 (nI 0)) MO 48 (nI 0)).1 (a, 0) := (fun a z1 z2 => k2.2.1 (a, 0) (ad2_ne (by omega)) (ad2_ne (by omega)) (ad2_ne (by omega)) (ad2_ne (by omega)))
                  refine ml_tail (c := c1) (x := c) (S := (px b 1000 3 (fN 0) 0 (p + 1)).2.2) (R := R) (l := l) hok hb (by omega) (fun h3 z => by show ClM b n k R l p (pcl b k p) h none h3; rw [eq]; exact z) (mf5.tr k2.mf) hr1 ((k2.2.2.1 46 rfl).trans hcl.1) (Nat.le_refl c1) (fun j hj => ⟨(hcl5 j hj).1, ?_⟩) ?_ ?_ (fun _ => sr1)
                  · exact (hcl5 j hj).2.kept (by omega) (fun a z1 z2 => by rw [frm a z1 z2]) (fun t ht => k2.2.2.2.1 t ht)
                  · rw [frm 137 (by decide) (by decide)]; exact h37
                  · rw [frm 138 (by decide) (by decide)]; exact h38
                ·
                  have e45 := q2 e1 e2
                  clear q1 q2 q3
                  have hbad : ¬ h2.1 MO 45 = 0 := by
                    rw [e45]
                    exact bdv_ne (by omega) (by omega) (by omega)
                  refine ml_bad hok (k := k) (by omega) (by rw [k2.1]; exact hr5.s) hbad ((k2.2.2.1 46 rfl).trans hcl.1) (fun h3 m3 e3 => ?_)
                  show ClM b n k R l p (pcl b k p) h none _
                  have n40 : ¬ b (px b 1000 3 (fN 0) 0 (p + 1)).2.1 = 40 := by omega
                  have e0 : pc b 1300 2 (fN 0) 0 (px b 1000 3 (fN 0) 0 (p + 1)).2.1 = (1, (px b 1000 3 (fN 0) 0 (p + 1)).2.1, fN 0) := cif_f n40
                  have eq : pcl b k p = (1, (px b 1000 3 (fN 0) 0 (p + 1)).2.1, fN 0, (px b 1000 3 (fN 0) 0 (p + 1)).2.2) := (cif_t hL).trans ((cif_f (by omega)).trans ((cif_t c121).trans ((cif_t e1).trans (by unfold pib; rw [e0]))))
                  rw [eq]
                  exact ⟨rfl, (mf5.tr k2.mf).tr m3, fun z => absurd (show (1 : Nat) = 0 from z) (by decide), fun _ => e3.trans e45⟩
                ·
                  have e45 := q3 e1
                  clear q1 q2 q3
                  have hbad : ¬ h2.1 MO 45 = 0 := by
                    rw [e45]
                    exact bdv_ne (by omega) (by omega) (by omega)
                  refine ml_bad hok (k := k) (by omega) (by rw [k2.1]; exact hr5.s) hbad ((k2.2.2.1 46 rfl).trans hcl.1) (fun h3 m3 e3 => ?_)
                  show ClM b n k R l p (pcl b k p) h none _
                  have eq : pcl b k p = ((px b 1000 3 (fN 0) 0 (p + 1)).1, (px b 1000 3 (fN 0) 0 (p + 1)).2.1, fN 0, fN 0) := (cif_t hL).trans ((cif_f (by omega)).trans ((cif_t c121).trans (cif_f e1)))
                  rw [eq]
                  exact ⟨rfl, (mf5.tr k2.mf).tr m3, fun z => absurd (show (px b 1000 3 (fN 0) 0 (p + 1)).1 = 0 from z) e1, fun _ => e3.trans e45⟩
            ·
              refine g_aload_n (pc' := 58) dX12_clause_57 rfl rfl ?_
              refine g_iconstN (n := 4) (pc' := 59) dX12_clause_58 rfl ?_
              refine g_aload_n (pc' := 60) dX12_clause_59 rfl rfl ?_
              refine g_getIv (v := nI (p)) (pc' := 63) (k := 43) dX12_clause_60 rfl rfl ck_13 (by decide) fl_X12_262 rfl (h43) ?_
              refine g_invV (pc' := 66) (cm_wrong hok hg 4 p) dX12_clause_63 rfl rfl ck_13 rfl ml_X12_284 im_X12_wrongs sl_X12_wrongs in_X12 co_X12_wrongs pd_X12_wrongs rfl (by omega) (by decide) ⟨by decide, by decide⟩ (Nat.le_of_ble_eq_true rfl) ?_
              rintro _ _ ⟨rfl, rfl⟩ -
              refine g_aload_n (pc' := 67) dX12_clause_66 rfl rfl ?_
              refine g_invV (pc' := 70) (cm_bad hok (by rw [wI_same]; exact bdv_ne (by decide) (by decide) (by omega))) dX12_clause_67 rfl rfl ck_13 rfl ml_X12_271 im_X12_isGood sl_X12_isGood in_X12 co_X12_isGood pd_X12_isGood rfl (by omega) (by decide) ⟨by decide, by decide⟩ (Nat.le_of_ble_eq_true rfl) ?_
              rintro _ _ ⟨rfl, rfl⟩ -
              refine g_if_neN (tgt := 74) (pc' := 73) dX12_clause_70 rfl (by decide) (by decide) (fun q => False.elim (by revert q; decide)) (fun _ => ?_)
              refine g_vret dX12_clause_73 rfl (by decide) (by decide) ?_
              show ClM b n k R l p (pcl b k p) h none _
              have eq : pcl b k p = (4, p, fN 0, fN 0) := (cif_t hL).trans (cif_t (by omega))
              rw [eq]
              exact ⟨rfl, (MF.rf h).f (show 43 ≤ 45 ∧ 45 ≤ 51 by decide), fun z => absurd (show (4 : Nat) = 0 from z) (by decide), fun _ => wI_same _ _ _ _⟩
          ·
            refine g_aload_n (pc' := 37) dX12_clause_36 rfl rfl ?_
            refine g_iconstN (n := 1) (pc' := 38) dX12_clause_37 rfl ?_
            refine g_aload_n (pc' := 39) dX12_clause_38 rfl rfl ?_
            refine g_getIv (v := nI (p)) (pc' := 42) (k := 43) dX12_clause_39 rfl rfl ck_13 (by decide) fl_X12_262 rfl (h43) ?_
            refine g_invV (pc' := 45) (cm_wrong hok hg 1 p) dX12_clause_42 rfl rfl ck_13 rfl ml_X12_284 im_X12_wrongs sl_X12_wrongs in_X12 co_X12_wrongs pd_X12_wrongs rfl (by omega) (by decide) ⟨by decide, by decide⟩ (Nat.le_of_ble_eq_true rfl) ?_
            rintro _ _ ⟨rfl, rfl⟩ -
            refine g_goto (tgt := 66) dX12_clause_45 (by decide) ?_
            refine g_aload_n (pc' := 67) dX12_clause_66 rfl rfl ?_
            refine g_invV (pc' := 70) (cm_bad hok (by rw [wI_same]; exact bdv_ne (by decide) (by decide) (by omega))) dX12_clause_67 rfl rfl ck_13 rfl ml_X12_271 im_X12_isGood sl_X12_isGood in_X12 co_X12_isGood pd_X12_isGood rfl (by omega) (by decide) ⟨by decide, by decide⟩ (Nat.le_of_ble_eq_true rfl) ?_
            rintro _ _ ⟨rfl, rfl⟩ -
            refine g_if_neN (tgt := 74) (pc' := 73) dX12_clause_70 rfl (by decide) (by decide) (fun q => False.elim (by revert q; decide)) (fun _ => ?_)
            refine g_vret dX12_clause_73 rfl (by decide) (by decide) ?_
            show ClM b n k R l p (pcl b k p) h none _
            have eq : pcl b k p = (1, p, fN 0, fN 0) := cif_f (fun z => by unfold isVn isNv at z; unfold isVn at c9; omega)
            rw [eq]
            exact ⟨rfl, (MF.rf h).f (show 43 ≤ 45 ∧ 45 ≤ 51 by decide), fun z => absurd (show (1 : Nat) = 0 from z) (by decide), fun _ => wI_same _ _ _ _⟩
