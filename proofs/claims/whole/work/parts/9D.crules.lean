/-! the class takes new rules -/
def rb (m : St) (n : Nat) : Nat → Nat := fun j => if j < n then (m 100 j &&& nI 255).toNatClampNeg else 0
theorem rb_t {m : St} {n j : Nat} (h : j < n) : m 100 j &&& nI 255 = nI (rb m n j) ∧ rb m n j < 256 := by
  obtain ⟨q, hq, e⟩ := pk_andE (m 100 j) (m := nI 255) 8 (by decide)
  unfold rb
  rw [if_pos h, e, nI_clamp (by omega)]
  exact ⟨rfl, hq⟩
theorem rb_HB {m : St} {n : Nat} (h : n ≤ 200) : HB (rb m n) n := by
  refine ⟨h, fun j => ?_, fun j hj => if_neg (by omega)⟩
  by_cases q : j < n
  · exact (rb_t q).2
  · unfold rb; rw [if_neg q]; decide
def okN (m : St) (x : Int32) : Prop := (nI 1 ≤ x ∧ x ≤ nI 200) ∧ x ≤ m 1 1
theorem okN_n {x : Int32} (h : nI 1 ≤ x ∧ x ≤ nI 200) : ∃ n : Nat, (1 ≤ n ∧ n ≤ 200) ∧ x = nI n := by
  obtain ⟨j, hj, e⟩ := nI_of2 (x := x) (M := nI 200) (n := 200) (by decide) (fun z => absurd (Int32.lt_of_le_of_lt h.1 z) (by decide)) h.2
  subst e
  exact ⟨j, ⟨(nI_leI (by omega) (by omega)).mp h.1, hj⟩, rfl⟩
noncomputable def rPr (m : St) (n : Nat) : Nat × Nat × Rm × (Nat → Nat) := prl (rb m n) n 17 0 0 (fun _ => (fN 0, fN 0)) (fun _ => 0)
noncomputable def ruA (m : St) (x : Int32) : Int32 := cif (okN m x) (cif ((rPr m x.toNatClampNeg).1 = 0) (nI (rPr m x.toNatClampNeg).2.1) (bdv (rPr m x.toNatClampNeg).1 (rPr m x.toNatClampNeg).2.1)) (-1)
def RuN (m m' : St) (r : Nat × Nat × Rm × (Nat → Nat)) : Prop := (∀ s, s ≠ 1 → ¬ (131 ≤ s ∧ s ≤ 136) → m' s = m s) ∧ (∀ j, j ≠ 1 → j ≠ 30 → m' 1 j = m 1 j) ∧ m' 1 1 = 0 ∧ m' 1 30 = nI r.2.1 ∧ (∀ j, j < r.2.1 → m' 131 j = nI (r.2.2.2 j)) ∧ WR m' r.2.2.1
/-- what new rules do to the reference's numbers -/
def RuM (m : St) (x : Int32) (m' : St) : Prop := (¬ okN m x → m' = m) ∧ (okN m x → (¬ (rPr m x.toNatClampNeg).1 = 0 → m' = stU m 1 1 0) ∧ ((rPr m x.toNatClampNeg).1 = 0 → RuN m m' (rPr m x.toNatClampNeg)))
theorem Cp.text {m m' : St} {h h' : Hp} (c : Cp m h) (a2 : h'.2.2 = h.2.2) (r2 : ∀ s i, s ≠ 0 → s ≠ 6 → s ≠ 7 → h'.2.1 (s, i) = h.2.1 (s, i)) (sp : Shp h'.2) (f : ∀ s, s ≠ 0 → s ≠ 6 → ¬ (35 ≤ s ∧ s ≤ 40) → ∀ i, h'.1 (s, i) = h.1 (s, i)) (e0 : ∀ j, j ≠ 4 → h'.1 (0, 0) j = h.1 (0, 0) j) (e4 : h'.1 (0, 0) 4 = m' 1 1) (ms : ∀ s, s ≠ 1 → ¬ (131 ≤ s ∧ s ≤ 136) → m' s = m s) (m1 : ∀ j, j ≠ 1 → j ≠ 30 → m' 1 j = m 1 j) (k12 : C12 m' h') : Cp m' h' := by
  have nk : nK m' = nK m := by unfold nK; rw [m1 3 (by decide) (by decide)]
  have nt : nT m' = nT m := by unfold nT; rw [m1 4 (by decide) (by decide)]
  have nf : nF m' = nF m := by unfold nF; rw [m1 5 (by decide) (by decide)]
  have nr : nR m' = nR m := by unfold nR; rw [m1 59 (by decide) (by decide)]
  have ng : nGf m' = nGf m := by unfold nGf; rw [m1 60 (by decide) (by decide)]
  have na : nA m' = nA m := by unfold nA; rw [m1 70 (by decide) (by decide)]
  have M : ∀ s, s ≠ 1 → ¬ (131 ≤ s ∧ s ≤ 136) → m' s = m s := ms
  have kdE : ∀ t, kd m' t = kd m t := fun t => by unfold kd; rw [M 115 (by decide) (by decide)]
  have rD : ∀ i n, h'.2.1 (dN i n) = h.2.1 (dN i n) := fun i n => by
    unfold dN
    split
    · exact r2 91 0 (by decide) (by decide) (by decide)
    · split
      · exact r2 61 i (by decide) (by decide) (by decide)
      · split
        · exact r2 62 i (by decide) (by decide) (by decide)
        · exact r2 63 i (by decide) (by decide) (by decide)
  refine ⟨sp, by unfold Al; rw [a2]; exact c.e, ?_, ?_, ?_, ?_, ?_, ?_, ?_, ?_, ?_, ?_, ?_, k12, ?_⟩
  · have q := c.c1
    unfold C1 at *
    exact ⟨(e0 0 (by decide)).trans (q.1.trans (m1 2 (by decide) (by decide)).symm), (e0 1 (by decide)).trans (q.2.1.trans (m1 6 (by decide) (by decide)).symm), (e0 2 (by decide)).trans (q.2.2.1.trans (m1 7 (by decide) (by decide)).symm), (e0 3 (by decide)).trans (q.2.2.2.1.trans (m1 60 (by decide) (by decide)).symm), e4⟩
  · have q := c.c2
    unfold C2 at *
    simp only [f 20 (by decide) (by decide) (by decide), M 100 (by decide) (by decide)]
    exact q
  · have q := c.c3
    unfold C3 at *
    simp only [f 21 (by decide) (by decide) (by decide), M 191 (by decide) (by decide)]
    exact q
  · have q := c.c4
    unfold C4 at *
    simp only [f 22 (by decide) (by decide) (by decide), M 187 (by decide) (by decide)]
    exact q
  · have q := c.c5
    unfold C5 Ls at *
    simp only [f 13 (by decide) (by decide) (by decide), f 2 (by decide) (by decide) (by decide), f 24 (by decide) (by decide) (by decide), f 25 (by decide) (by decide) (by decide), M 108 (by decide) (by decide), M 109 (by decide) (by decide), M 110 (by decide) (by decide), M 111 (by decide) (by decide), M 112 (by decide) (by decide), M 113 (by decide) (by decide), M 114 (by decide) (by decide), a2, rD, r2 13 _ (by decide) (by decide) (by decide), nk]
    exact q
  · have q := c.c6
    unfold C6 Ls at *
    simp only [f 13 (by decide) (by decide) (by decide), f 3 (by decide) (by decide) (by decide), f 26 (by decide) (by decide) (by decide), M 116 (by decide) (by decide), M 118 (by decide) (by decide), M 119 (by decide) (by decide), M 120 (by decide) (by decide), M 121 (by decide) (by decide), M 123 (by decide) (by decide), M 117 (by decide) (by decide), M 122 (by decide) (by decide), M 124 (by decide) (by decide), M 125 (by decide) (by decide), a2, rD, r2 13 _ (by decide) (by decide) (by decide), r2 3 _ (by decide) (by decide) (by decide), nt, kdE]
    exact q
  · have q := c.c7
    unfold C7 at *
    simp only [f 3 (by decide) (by decide) (by decide), f 27 (by decide) (by decide) (by decide), f 28 (by decide) (by decide) (by decide), M 167 (by decide) (by decide), M 168 (by decide) (by decide), M 169 (by decide) (by decide), nt, ng]
    exact q
  · have q := c.c8
    unfold C8 Ls at *
    simp only [f 13 (by decide) (by decide) (by decide), f 4 (by decide) (by decide) (by decide), f 29 (by decide) (by decide) (by decide), M 126 (by decide) (by decide), M 127 (by decide) (by decide), M 128 (by decide) (by decide), M 129 (by decide) (by decide), M 186 (by decide) (by decide), a2, rD, r2 13 _ (by decide) (by decide) (by decide), nf]
    exact q
  · have q := c.c9
    unfold C9 Ls at *
    simp only [f 13 (by decide) (by decide) (by decide), f 5 (by decide) (by decide) (by decide), f 30 (by decide) (by decide) (by decide), M 161 (by decide) (by decide), M 162 (by decide) (by decide), M 163 (by decide) (by decide), M 164 (by decide) (by decide), M 165 (by decide) (by decide), M 166 (by decide) (by decide), a2, rD, r2 13 _ (by decide) (by decide) (by decide), nr]
    exact q
  · have q := c.c10
    unfold C10 at *
    simp only [f 8 (by decide) (by decide) (by decide), f 31 (by decide) (by decide) (by decide), f 32 (by decide) (by decide) (by decide), f 33 (by decide) (by decide) (by decide), f 34 (by decide) (by decide) (by decide), M 172 (by decide) (by decide), M 173 (by decide) (by decide), M 174 (by decide) (by decide), M 175 (by decide) (by decide), na, m1 70 (by decide) (by decide), m1 71 (by decide) (by decide)]
    exact q
  · exact c.c11.same (M 176 (by decide) (by decide)) (M 177 (by decide) (by decide)) (M 178 (by decide) (by decide)) (M 179 (by decide) (by decide)) nf na (fun g => by rw [f 4 (by decide) (by decide) (by decide)]) (f 23 (by decide) (by decide) (by decide) 0)
  · have q := c.c13
    unfold C13 at *
    simp only [f 46 (by decide) (by decide) (by decide), f 47 (by decide) (by decide) (by decide), f 48 (by decide) (by decide) (by decide), f 58 (by decide) (by decide) (by decide), r2 50 _ (by decide) (by decide) (by decide)]
    exact q
theorem KW.f {t : Nat} {h h' : Hp} (k : KW t h h') {s : Nat} (h6 : s ≠ 6) (h3 : ¬ (35 ≤ s ∧ s ≤ 40)) (i : Nat) : h'.1 (s, i) = h.1 (s, i) := k.2.2 (s, i) (Or.inr (fun z => by rcases z with z | z; exact h6 z; exact h3 z))
theorem KW.s {t : Nat} {h h' : Hp} (k : KW t h h') (s : Shp h.2) : Shp h'.2 := fun s' j i' b hb ha => by
  have e1 : h'.2.2 = h.2.2 := k.1
  rw [k.2.1 (s', i') j (by
    by_cases z : j = 6
    · subst z
      refine Or.inl (fun y => ?_)
      have : s' = 6 := congrArg Prod.fst y
      subst this
      cases hb
    · exact Or.inr z)]
  exact s s' j i' b hb (by rw [← e1]; exact ha)
theorem mo_kw {t : Nat} {h h' : Hp} (k : KW t h h') : mo h' = mo h := mo_same (fun b q => k.2.2 b (Or.inr (fun z => by
  rcases z with z | z
  · rw [z] at q; exact q rfl
  · have : kS b.1 = 0 := by
      unfold kS
      have a : Nat.beq b.1 1 = false := by
        cases y : Nat.beq b.1 1 with
        | false => rfl
        | true => have := Nat.eq_of_beq_eq_true y; omega
      have a2 : Nat.ble 100 b.1 = false := by
        cases y : Nat.ble 100 b.1 with
        | false => rfl
        | true => have := Nat.le_of_ble_eq_true y; omega
      rw [a, a2]
      rfl
    exact q this)))
set_option maxRecDepth 4000 in
theorem cx_rules {E : En} (hok : EOK E) {h : Hp} {m : St} (hc : Cp m h) (x : Int32) : Call E m_X11_rules 34 0 0 [vR TH, vI x] h (fun r h' => r = some (vI (ruA m x)) ∧ (∀ m', RuM m x m' → Cp m' h') ∧ mo h' = mo h ∧ Shp h'.2) := by
  have hs := hc.s
  obtain ⟨R, wr, i, hi, r7, r0, ct⟩ := hc.c12
  obtain ⟨t, et⟩ : ∃ t, t = 1 - i := ⟨_, rfl⟩
  have t1 : t ≤ 1 := by omega
  have t2 : 1 - t = i := by omega
  have t3 : i ≠ t := by omega
  rw [← et] at r0
  refine Call.enter hok (by decide) (Nat.le_of_ble_eq_true rfl) ?_
  show G E m_X11_rules 34 0 0 _ h 0 [some (vR TH), some (vI x), none] [] h 0 0
  refine g_iload_n (pc' := 1) dX11_rules_0 rfl rfl ?_
  refine g_iconstN (n := 1) (pc' := 2) dX11_rules_1 rfl ?_
  refine g_sipushN (n := 200) (pc' := 5) dX11_rules_2 rfl (by decide) ?_
  refine g_invS (pc' := 8) (cx_within hok _ _ _) dX11_rules_5 rfl ml_X11_99 st_X11_within in_X11 co_X11_within pd_X11_within rfl (by omega) (by decide) ⟨by decide, by decide⟩ (Nat.le_of_ble_eq_true rfl) ?_
  rintro _ _ ⟨rfl, rfl⟩ -
  refine g_ifB_eq (tgt := 19) (pc' := 11) dX11_rules_8 rfl (by decide) (fun c8 => ?_) (fun c8 => ?_)
  ·
    refine g_iconst (v := -1) (pc' := 20) dX11_rules_19 rfl (by decide) ?_
    refine g_iret dX11_rules_20 rfl (by decide) (by decide) ?_
    exact ⟨congrArg (fun z : Int32 => some (vI z)) (show _ = ruA m x from (cif_f (fun z => c8 z.1)).symm), fun m' q => by rw [q.1 (fun z => c8 z.1)]; exact hc, rfl, hc.s⟩
  ·
    refine g_iload_n (pc' := 12) dX11_rules_11 rfl rfl ?_
    refine g_aload_n (pc' := 13) dX11_rules_12 rfl rfl ?_
    refine g_getIv (v := m 1 1) (pc' := 16) (k := 4) dX11_rules_13 rfl rfl ck_12 (by decide) fl_X11_165 rfl (hc.c1.2.2.2.2) ?_
    refine g_icmp_le (tgt := 21) (pc' := 19) dX11_rules_16 rfl (by decide) (fun c16 => ?_) (fun c16 => ?_)
    ·
      obtain ⟨n, hn, rfl⟩ := okN_n c8
      have htp : ∀ j, j < n → (wI h TH 4 (nI 0)).1 (20, 0) j = nI (rb m n j) := fun j hj => (hc.c2 j (by omega)).trans (rb_t hj).1
      refine g_aload_n (pc' := 22) dX11_rules_21 rfl rfl ?_
      refine g_iconstN (n := 0) (pc' := 23) dX11_rules_22 rfl ?_
      refine g_putI (pc' := 26) (k := 4) dX11_rules_23 rfl rfl ck_12 (by decide) fl_X11_165 rfl rfl rfl rfl ?_
      refine g_aload_n (pc' := 27) dX11_rules_26 rfl rfl ?_
      refine g_getR (pc' := 30) (k := 5) (r := some (6, t)) dX11_rules_27 rfl rfl ck_12 (by decide) fl_X11_47 rfl (r0) ?_
      refine g_aload_n (pc' := 31) dX11_rules_30 rfl rfl ?_
      refine g_getS (pc' := 34) (k := 6) (b := (20, 0)) dX11_rules_31 rfl rfl ck_12 (by decide) fl_X11_9 rfl hs rfl ?_
      refine g_iload_n (pc' := 35) dX11_rules_34 rfl rfl ?_
      refine g_invV (pc' := 38) (cr_read hok (i := t) (h := wI h TH 4 (nI 0)) (fun _ => (fN 0, fN 0)) (fun _ => 0) (rb_HB hn.2) hc.s hc.e htp) dX11_rules_35 rfl rfl ck_7 rfl ml_X11_172 im_X6_read sl_X6_read in_X6 co_X6_read pd_X6_read rfl (by omega) (by decide) ⟨by decide, by decide⟩ (Nat.le_of_ble_eq_true rfl) ?_
      rintro _ h2 ⟨rfl, kr, q1, q2⟩ -
      have kw := KW.of kr
      have r0b : h2.2.1 TH 5 = some (6, t) := (kw.2.1 TH 5 (Or.inr (by decide))).trans r0
      have r7b : h2.2.1 (7, 0) 2 = some (6, i) := (kw.2.1 (7, 0) 2 (Or.inr (by decide))).trans r7
      have hs := kw.s hc.s
      rcases Classical.em ((rPr m n).1 = 0) with e2 | e2
      ·
        obtain ⟨s2, l2, cl2⟩ := q1 e2
        rw [show bi ((prl (rb m n) n 17 0 0 (fun _ => (fN 0, fN 0)) fun _ => 0).1 = 0) = nI 1 from bi_t e2]
        refine g_if_neN (tgt := 61) (pc' := 41) dX11_rules_38 rfl (by decide) (by decide) (fun _ => ?_) (fun q => False.elim (by revert q; decide))
        refine g_aload_n (pc' := 62) dX11_rules_61 rfl rfl ?_
        refine g_getS (pc' := 65) (k := 14) (b := (7, 0)) dX11_rules_62 rfl rfl ck_12 (by decide) fl_X11_56 rfl hs rfl ?_
        refine g_getR (pc' := 68) (k := 2) (r := some (6, i)) dX11_rules_65 rfl rfl ck_6 (by decide) fl_X11_182 rfl (r7b) ?_
        refine g_astore_n (pc' := 69) dX11_rules_68 rfl (by decide) rfl ?_
        try simp only [List.set]
        refine g_aload_n (pc' := 70) dX11_rules_69 rfl rfl ?_
        refine g_getS (pc' := 73) (k := 14) (b := (7, 0)) dX11_rules_70 rfl rfl ck_12 (by decide) fl_X11_56 rfl hs rfl ?_
        refine g_aload_n (pc' := 74) dX11_rules_73 rfl rfl ?_
        refine g_getR (pc' := 77) (k := 5) (r := some (6, t)) dX11_rules_74 rfl rfl ck_12 (by decide) fl_X11_47 rfl (r0b) ?_
        refine g_putR (pc' := 80) (k := 2) dX11_rules_77 rfl rfl ck_6 (by decide) fl_X11_182 rfl rfl ?_
        refine g_aload_n (pc' := 81) dX11_rules_80 rfl rfl ?_
        refine g_aload_n (pc' := 82) dX11_rules_81 rfl rfl ?_
        refine g_putR (pc' := 85) (k := 5) dX11_rules_82 rfl rfl ck_12 (by decide) fl_X11_47 rfl rfl ?_
        have hs0 := hs
        have hs : Shp (wR (wR h2 (7, 0) 2 (some (6, t))) TH 5 (some (6, i))).2 := by
          intro s' j i' b hb ha
          show (wR (wR h2 (7, 0) 2 (some (6, t))) TH 5 (some (6, i))).2.1 (s', i') j = some b
          rw [wR_at, if_neg (fun z => by
            obtain ⟨z1, rfl⟩ := z
            have : s' = 0 := congrArg Prod.fst z1
            subst this
            cases hb), wR_at, if_neg (fun z => by
            obtain ⟨z1, rfl⟩ := z
            have : s' = 7 := congrArg Prod.fst z1
            subst this
            cases hb)]
          exact hs0 s' j i' b hb ha
        refine g_aload_n (pc' := 86) dX11_rules_85 rfl rfl ?_
        refine g_getS (pc' := 89) (k := 14) (b := (7, 0)) dX11_rules_86 rfl rfl ck_12 (by decide) fl_X11_56 rfl hs rfl ?_
        refine g_getR (pc' := 92) (k := 2) (r := some (6, t)) dX11_rules_89 rfl rfl ck_6 (by decide) fl_X11_182 rfl (by rw [wR_at, if_neg (fun z => absurd (congrArg Prod.fst z.1) (by decide)), wR_at, if_pos ⟨rfl, rfl⟩]) ?_
        refine g_getIv (v := nI ((rPr m n).2.1)) (pc' := 95) (k := 10) dX11_rules_92 rfl rfl ck_7 (by decide) fl_X11_185 rfl (cl2.1) ?_
        refine g_iret dX11_rules_95 rfl (by decide) (by decide) ?_
        have ea : ruA m (nI n) = nI (rPr m n).2.1 := by unfold ruA; rw [cif_t ⟨c8, c16⟩, nI_clamp (by omega), cif_t e2]
        refine ⟨congrArg (fun z : Int32 => some (vI z)) ea.symm, fun m' q => ?_, (show mo (wR (wR h2 (7, 0) 2 (some (6, t))) TH 5 (some (6, i))) = mo h from (mo_kw kw).trans (mo_off rfl)), hs⟩
        have q := q.2 ⟨c8, c16⟩
        rw [nI_clamp (by omega)] at q
        obtain ⟨ms, m1, g1, g30, g131, wr2⟩ := q.2 e2
        have nc : nC m' = (rPr m n).2.1 := by unfold nC; rw [g30]; exact nI_clamp (by have := prl_ok (rb_HB (m := m) hn.2) 17 0 0 (fun _ => (fN 0, fN 0)) (fun _ => 0) (Nat.zero_le n) rfl; unfold rPr at *; omega)
        refine hc.text kw.1 (fun s j z1 z2 z3 => ?_) ?_ (fun s z1 z2 z3 j => (kw.f z2 z3 j).trans (wI_off _ _ _ _ _ (ad2_ne z1))) (fun j hj => ?_) ?_ ms m1 ⟨(rPr m n).2.2.1, wr2, t, t1, ?_, ?_, ?_, fun j hj => ?_⟩
        · funext a
          rw [wR_at, if_neg (fun z => z1 (congrArg Prod.fst z.1)), wR_at, if_neg (fun z => z3 (congrArg Prod.fst z.1))]
          exact kw.2.1 (s, j) a (Or.inl (ad2_ne z2))
        · exact hs
        · exact (congrFun (kw.f (s := 0) (by decide) (by decide) 0) j).trans (wI_f hj)
        · exact ((congrFun (kw.f (s := 0) (by decide) (by decide) 0) 4).trans (wI_same _ _ _ _)).trans g1.symm
        · show (wR (wR h2 (7, 0) 2 (some (6, t))) TH 5 (some (6, i))).2.1 (7, 0) 2 = some (6, t)
          rw [wR_at, if_neg (fun z => absurd (congrArg Prod.fst z.1) (by decide)), wR_at, if_pos ⟨rfl, rfl⟩]
        · show (wR (wR h2 (7, 0) 2 (some (6, t))) TH 5 (some (6, i))).2.1 TH 5 = some (6, 1 - t)
          rw [wR_at, if_pos ⟨rfl, rfl⟩, t2]
        · exact cl2.1.trans g30.symm
        · rw [nc] at hj
          obtain ⟨qc, q0, xx, y, z, q3, q4, q5, q6, q7, q8⟩ := cl2.2 j hj
          refine ⟨q0.trans (g131 j hj).symm, xx, y, z, q3, q4, q5, by omega, q7, fun w => ?_⟩
          rw [g131 j hj] at w
          exact (q8 ((isV_n qc).mp w)).1
      ·
        have fb := q2 e2
        rw [show bi ((prl (rb m n) n 17 0 0 (fun _ => (fN 0, fN 0)) fun _ => 0).1 = 0) = nI 0 from bi_f e2]
        refine g_if_neN (tgt := 61) (pc' := 41) dX11_rules_38 rfl (by decide) (by decide) (fun q => False.elim (by revert q; decide)) (fun _ => ?_)
        refine g_sipush (v := -1000) (pc' := 44) dX11_rules_41 rfl (by decide) ?_
        refine g_aload_n (pc' := 45) dX11_rules_44 rfl rfl ?_
        refine g_getR (pc' := 48) (k := 5) (r := some (6, t)) dX11_rules_45 rfl rfl ck_12 (by decide) fl_X11_47 rfl (r0b) ?_
        refine g_getIv (v := nI ((rPr m n).1)) (pc' := 51) (k := 11) dX11_rules_48 rfl rfl ck_7 (by decide) fl_X11_176 rfl (fb.1) ?_
        refine g_imul (pc' := 52) dX11_rules_51 rfl ?_
        refine g_aload_n (pc' := 53) dX11_rules_52 rfl rfl ?_
        refine g_getR (pc' := 56) (k := 5) (r := some (6, t)) dX11_rules_53 rfl rfl ck_12 (by decide) fl_X11_47 rfl (r0b) ?_
        refine g_getIv (v := nI ((rPr m n).2.1)) (pc' := 59) (k := 12) dX11_rules_56 rfl rfl ck_7 (by decide) fl_X11_179 rfl (fb.2) ?_
        refine g_isub (pc' := 60) dX11_rules_59 rfl ?_
        refine g_iret dX11_rules_60 rfl (by decide) (by decide) ?_
        have ea : ruA m (nI n) = bdv (rPr m n).1 (rPr m n).2.1 := by unfold ruA; rw [cif_t ⟨c8, c16⟩, nI_clamp (by omega), cif_f e2]
        refine ⟨congrArg (fun z : Int32 => some (vI z)) ea.symm, fun m' q => ?_, (mo_kw kw).trans (mo_off rfl), hs⟩
        have q := q.2 ⟨c8, c16⟩
        rw [nI_clamp (by omega)] at q
        rw [q.1 e2]
        refine hc.text kw.1 (fun s j z1 z2 z3 => funext fun a => kw.2.1 (s, j) a (Or.inl (ad2_ne z2))) hs (fun s z1 z2 z3 j => (kw.f z2 z3 j).trans (wI_off _ _ _ _ _ (ad2_ne z1))) (fun j hj => ?_) ?_ (fun s z1 z2 => if_neg z1) (fun j z1 z2 => ?_) ⟨R, ?_, i, hi, r7b, ?_, ?_⟩
        · exact (congrFun (kw.f (s := 0) (by decide) (by decide) 0) j).trans (wI_f hj)
        · exact (congrFun (kw.f (s := 0) (by decide) (by decide) 0) 4).trans (wI_same _ _ _ _)
        · rw [stU_at, if_neg (fun z => z1 z.2)]
        · exact wr.same rfl rfl rfl rfl rfl rfl rfl
        · rw [← et]; exact r0b
        · have ne := t3
          have g : ∀ s : Nat, s ≠ 0 → h2.1 (s, i) = h.1 (s, i) := fun s z => (kw.2.2 (s, i) (Or.inl ne)).trans (wI_off _ _ _ _ _ (ad2_ne z))
          unfold CT at *
          rw [g 6 (by decide), g 35 (by decide), g 36 (by decide), g 37 (by decide), g 38 (by decide), g 39 (by decide), g 40 (by decide)]
          exact ct
    ·
      refine g_iconst (v := -1) (pc' := 20) dX11_rules_19 rfl (by decide) ?_
      refine g_iret dX11_rules_20 rfl (by decide) (by decide) ?_
      exact ⟨congrArg (fun z : Int32 => some (vI z)) (show _ = ruA m x from (cif_f (fun z => c16 z.2)).symm), fun m' q => by rw [q.1 (fun z => c16 z.2)]; exact hc, rfl, hc.s⟩
