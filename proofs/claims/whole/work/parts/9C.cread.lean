/-! the class reads a text, and takes it -/
def RdP (i n : Nat) (r : Nat × Nat × Rm × (Nat → Nat)) (h : Hp) (v : Option V) (h' : Hp) : Prop := v = some (vI (bi (r.1 = 0))) ∧ KR i h h' ∧ (r.1 = 0 → ∃ s, s ≤ n ∧ CL i r.2.1 r.2.2.1 r.2.2.2 s h') ∧ (¬ r.1 = 0 → h'.1 (6, i) 11 = nI r.1 ∧ h'.1 (6, i) 12 = nI r.2.1)
theorem prl_s {b : Nat → Nat} {n u k p : Nat} {R : Rm} {l : Nat → Nat} : prl b n (u + 1) k p R l = cif ((pcl b k p).1 = 0) (cif (n ≤ (pcl b k p).2.1) (0, k + 1, pud R k ((pcl b k p).2.2.1, (pcl b k p).2.2.2), pud l k (b p)) (cif (b (pcl b k p).2.1 = 59) (prl b n u (k + 1) ((pcl b k p).2.1 + 1) (pud R k ((pcl b k p).2.2.1, (pcl b k p).2.2.2)) (pud l k (b p))) (1, (pcl b k p).2.1, R, l))) ((pcl b k p).1, (pcl b k p).2.1, R, l) := rfl
set_option maxRecDepth 4000 in
theorem rd_loop {E : En} (hok : EOK E) {b : Nat → Nat} {n i : Nat} (hb : HB b n) {h h0 : Hp} {Q : Option V → Hp → Prop} : ∀ (u k p s : Nat) (R : Rm) (l : Nat → Nat) (h1 : Hp), u + k = 17 → k ≤ 16 → p ≤ n → s ≤ p → ST b n i s p s h1 h1 → CL i k R l s h1 → KR i h h1 → (∀ v h2, RdP i n (prl b n u k p R l) h v h2 → Q v h2) → G E m_X6_read 33 0 0 Q h0 42 [some (vR (6, i)), some (vR (20, 0)), some (vI (nI n)), some (vI (nI k))] [] h1 0 0 := by
  have hn := hb.1
  intro u
  induction u with
  | zero =>
    intro k p s R l h1 hu hk
    omega
  | succ u ih =>
    intro k p s R l h1 hu hk hp hsp hst hcl hkr hQ
    have pq := pcl_ok hb hp k
    refine g_iload_n (pc' := 43) dX6_read_42 rfl rfl ?_
    refine g_bipushN (n := 16) (pc' := 45) dX6_read_43 rfl (by decide) ?_
    refine g_icmp_gtN (tgt := 87) (pc' := 48) dX6_read_45 rfl (by decide) (by omega) (by omega) (fun c45 => ?_) (fun c45 => ?_)
    · exact absurd c45 (by omega)
    ·
      refine g_aload_n (pc' := 49) dX6_read_48 rfl rfl ?_
      refine g_invV (pc' := 52) (cr_clause hok hb hst hp hsp (by omega) hcl) dX6_read_49 rfl rfl ck_7 rfl ml_X6_58 im_X6_readClause sl_X6_readClause in_X6 co_X6_readClause pd_X6_readClause rfl (by omega) (by decide) ⟨by decide, by decide⟩ (Nat.le_of_ble_eq_true rfl) ?_
      rintro _ h2 ⟨rfl, kr, tc, q1, q2⟩ -
      rcases Classical.em ((pcl b k p).1 = 0) with e2 | e2
      ·
        obtain ⟨s2, a8, a9, l2, cl2⟩ := q1 e2
        rw [show bi ((pcl b k p).1 = 0) = nI 1 from bi_t e2]
        have hst2 : ST b n i s2 (pcl b k p).2.1 s2 h2 h2 := ⟨tc, KT.rf _ _ _, a8, a9⟩
        refine g_if_neN (tgt := 57) (pc' := 55) dX6_read_52 rfl (by decide) (by decide) (fun _ => ?_) (fun q => False.elim (by revert q; decide))
        have pq1 := pq.1
        have pq2 := pq.2.2 e2
        refine g_aload_n (pc' := 58) dX6_read_57 rfl rfl ?_
        refine g_getIv (v := nI ((pcl b k p).2.1)) (pc' := 61) (k := 8) dX6_read_58 rfl rfl ck_7 (by decide) fl_X6_43 rfl (a8) ?_
        refine g_aload_n (pc' := 62) dX6_read_61 rfl rfl ?_
        refine g_getIv (v := nI (n)) (pc' := 65) (k := 7) dX6_read_62 rfl rfl ck_7 (by decide) fl_X6_39 rfl (tc.2.2.1) ?_
        refine g_icmp_ltN (tgt := 70) (pc' := 68) dX6_read_65 rfl (by decide) (by omega) (by omega) (fun c65 => ?_) (fun c65 => ?_)
        ·
          refine g_aload_n (pc' := 71) dX6_read_70 rfl rfl ?_
          refine g_bipushN (n := 59) (pc' := 73) dX6_read_71 rfl (by decide) ?_
          refine g_invV (pc' := 76) (cr_sign hok hb hst2 pq.1 (c := 59) ⟨by decide, by decide⟩) dX6_read_73 rfl rfl ck_7 rfl ml_X6_62 im_X6_readSign sl_X6_readSign in_X6 co_X6_readSign pd_X6_readSign rfl (by omega) (by decide) ⟨by decide, by decide⟩ (Nat.le_of_ble_eq_true rfl) ?_
          rintro _ h3 ⟨rfl, e3⟩ -
          refine g_ifB_ne (tgt := 81) (pc' := 79) dX6_read_76 rfl (by decide) (fun c76 => ?_) (fun c76 => ?_)
          ·
            rw [cif_t c76] at e3
            subst e3
            refine g_iincN (k := 1) (pc' := 84) dX6_read_81 rfl rfl (by decide) rfl ?_
            try simp only [List.set]
            refine g_goto (tgt := 42) dX6_read_84 (by decide) ?_
            have eq : prl b n (u + 1) k p R l = prl b n u (k + 1) ((pcl b k p).2.1 + 1) (pud R k ((pcl b k p).2.2.1, (pcl b k p).2.2.2)) (pud l k (b p)) := by rw [prl_s, cif_t e2, cif_f (by omega), cif_t c76]
            exact ih (k + 1) ((pcl b k p).2.1 + 1) s2 (pud R k ((pcl b k p).2.2.1, (pcl b k p).2.2.2)) (pud l k (b p)) _ (by omega) (by omega) (by omega) (by omega) (ST.re (ST.at (q := (pcl b k p).2.1 + 1) hst2) s2) ⟨(wI_f (by decide)).trans cl2.1, fun j hj => (cl2.2 j hj).kept (Nat.le_refl s2) (fun a z1 z2 => by rw [wI_off _ _ _ _ _ (ad2_ne (by omega))]) (fun t _ => ⟨rfl, rfl⟩)⟩ ((hkr.tr kr).w (Or.inl rfl)) (fun v h4 q => hQ v h4 (by rw [eq]; exact q))
          ·
            rw [cif_f c76] at e3
            subst e3
            refine g_iconstN (n := 0) (pc' := 80) dX6_read_79 rfl ?_
            refine g_zret dX6_read_80 rfl (by rfl) (by decide) (by decide) ?_
            refine hQ _ _ ?_
            rw [prl_s, cif_t e2, cif_f (by omega), cif_f c76]
            exact ⟨by rw [bi_f (show ¬ (1 : Nat) = 0 by decide)]; rfl, (((hkr.tr kr).w (Or.inl rfl)).w (Or.inl rfl)), fun z => absurd (show (1 : Nat) = 0 from z) (by decide), fun _ => ⟨(wI_f (by decide)).trans (wI_same _ _ _ _), wI_same _ _ _ _⟩⟩
        ·
          refine g_iconstN (n := 1) (pc' := 69) dX6_read_68 rfl ?_
          refine g_zret dX6_read_69 rfl (by rfl) (by decide) (by decide) ?_
          refine hQ _ _ ?_
          rw [prl_s, cif_t e2, cif_t (by omega)]
          exact ⟨by rw [bi_t rfl]; rfl, hkr.tr kr, fun _ => ⟨s2, by omega, cl2⟩, fun z => absurd rfl z⟩
      ·
        have fb := q2 e2
        rw [show bi ((pcl b k p).1 = 0) = nI 0 from bi_f e2]
        refine g_if_neN (tgt := 57) (pc' := 55) dX6_read_52 rfl (by decide) (by decide) (fun q => False.elim (by revert q; decide)) (fun _ => ?_)
        refine g_iconstN (n := 0) (pc' := 56) dX6_read_55 rfl ?_
        refine g_zret dX6_read_56 rfl (by rfl) (by decide) (by decide) ?_
        refine hQ _ _ ?_
        rw [prl_s, cif_f e2]
        exact ⟨by rw [bi_f (show ¬ (pcl b k p).1 = 0 from e2)]; rfl, hkr.tr kr, fun z => absurd z e2, fun _ => fb⟩
def H7 (i n : Nat) (h : Hp) : Hp := wI (wI (wI (wI (wI (wI (wR h (6, i) 6 (some (20, 0))) (6, i) 7 (nI n)) (6, i) 8 (nI 0)) (6, i) 9 (nI 0)) (6, i) 10 (nI 0)) (6, i) 11 (nI 0)) (6, i) 12 (nI 0)
/-- the text reads this tape now; else only its own numbers changed -/
def KW (i : Nat) (h h' : Hp) : Prop := h'.2.2 = h.2.2 ∧ (∀ a j, a ≠ (6, i) ∨ j ≠ 6 → h'.2.1 a j = h.2.1 a j) ∧ ∀ a : Ad, a.2 ≠ i ∨ ¬ tx a.1 → h'.1 a = h.1 a
theorem kr7 (i n : Nat) (h : Hp) : KR i (wR h (6, i) 6 (some (20, 0))) (H7 i n h) := ((((((KR.rf i _).w (Or.inl rfl)).w (Or.inl rfl)).w (Or.inl rfl)).w (Or.inl rfl)).w (Or.inl rfl)).w (Or.inl rfl)
theorem KW.of {i : Nat} {h h' : Hp} (k : KR i (wR h (6, i) 6 (some (20, 0))) h') : KW i h h' := by
  refine ⟨by rw [k.1]; rfl, fun a j q => ?_, fun a q => k.2 a q⟩
  rw [k.1, wR_at, if_neg (fun z => by rcases q with q | q <;> simp_all)]
theorem Shp.w6 {h : Hp} {i : Nat} {x : Option Ad} (s : Shp h.2) : Shp (wR h (6, i) 6 x).2 := fun s' j i' b hb ha => by
  show (wR h (6, i) 6 x).2.1 (s', i') j = some b
  rw [wR_at, if_neg (fun z => by
    obtain ⟨z1, rfl⟩ := z
    have : s' = 6 := congrArg Prod.fst z1
    subst this
    cases hb)]
  exact s s' j i' b hb ha
theorem st7 {b : Nat → Nat} {n i : Nat} {h : Hp} (hs : Shp h.2) (ha : Al h) (ht : ∀ j, j < n → h.1 (20, 0) j = nI (b j)) : ST b n i 0 0 0 (H7 i n h) (H7 i n h) ∧ ∀ R l, CL i 0 R l 0 (H7 i n h) := by
  have f : ∀ k, (H7 i n h).1 (6, i) k = if k = 12 then nI 0 else if k = 11 then nI 0 else if k = 10 then nI 0 else if k = 9 then nI 0 else if k = 8 then nI 0 else if k = 7 then nI n else h.1 (6, i) k := fun k => by
    unfold H7
    simp only [wI_at, true_and]
    rfl
  exact ⟨⟨⟨hs.w6, by show (wR h (6, i) 6 (some (20, 0))).2.1 (6, i) 6 = _; rw [wR_at, if_pos ⟨rfl, rfl⟩], f 7, fun j hj => ht j hj, ha⟩, KT.rf _ _ _, f 8, f 9⟩, fun R l => ⟨f 10, fun j hj => absurd hj (Nat.not_lt_zero j)⟩⟩
set_option maxRecDepth 4000 in
theorem cr_read {E : En} (hok : EOK E) {h : Hp} {b : Nat → Nat} {n i : Nat} (R : Rm) (l : Nat → Nat) (hb : HB b n) (hs : Shp h.2) (ha : Al h) (ht : ∀ j, j < n → h.1 (20, 0) j = nI (b j)) : Call E m_X6_read 33 0 0 [vR (6, i), vR (20, 0), vI (nI n)] h (fun v h' => RdP i n (prl b n 17 0 0 R l) (wR h (6, i) 6 (some (20, 0))) v h') := by
  have hn := hb.1
  refine Call.enter hok (by decide) (Nat.le_of_ble_eq_true rfl) ?_
  show G E m_X6_read 33 0 0 _ h 0 [some (vR (6, i)), some (vR (20, 0)), some (vI (nI n)), none] [] h 0 0
  refine g_aload_n (pc' := 1) dX6_read_0 rfl rfl ?_
  refine g_aload_n (pc' := 2) dX6_read_1 rfl rfl ?_
  refine g_putR (pc' := 5) (k := 6) dX6_read_2 rfl rfl ck_7 (by decide) fl_X6_30 rfl rfl ?_
  refine g_aload_n (pc' := 6) dX6_read_5 rfl rfl ?_
  refine g_iload_n (pc' := 7) dX6_read_6 rfl rfl ?_
  refine g_aload_n (pc' := 8) dX6_read_7 rfl rfl ?_
  refine g_alen (pc' := 9) (v := nI 220) dX6_read_8 rfl rfl (by decide) rfl ?_
  refine g_min (pc' := 12) dX6_read_9 rfl ml_X6_33 mn_s in_J9 mn_c (by omega) (by decide) (by decide) (Nat.le_of_ble_eq_true rfl) ?_
  rw [if_neg (nI_nlt (show n ≤ 220 by omega) (by omega))]
  refine g_putI (pc' := 15) (k := 7) dX6_read_12 rfl rfl ck_7 (by decide) fl_X6_39 rfl rfl rfl rfl ?_
  refine g_aload_n (pc' := 16) dX6_read_15 rfl rfl ?_
  refine g_iconstN (n := 0) (pc' := 17) dX6_read_16 rfl ?_
  refine g_putI (pc' := 20) (k := 8) dX6_read_17 rfl rfl ck_7 (by decide) fl_X6_43 rfl rfl rfl rfl ?_
  refine g_aload_n (pc' := 21) dX6_read_20 rfl rfl ?_
  refine g_iconstN (n := 0) (pc' := 22) dX6_read_21 rfl ?_
  refine g_putI (pc' := 25) (k := 9) dX6_read_22 rfl rfl ck_7 (by decide) fl_X6_46 rfl rfl rfl rfl ?_
  refine g_aload_n (pc' := 26) dX6_read_25 rfl rfl ?_
  refine g_iconstN (n := 0) (pc' := 27) dX6_read_26 rfl ?_
  refine g_putI (pc' := 30) (k := 10) dX6_read_27 rfl rfl ck_7 (by decide) fl_X6_49 rfl rfl rfl rfl ?_
  refine g_aload_n (pc' := 31) dX6_read_30 rfl rfl ?_
  refine g_iconstN (n := 0) (pc' := 32) dX6_read_31 rfl ?_
  refine g_putI (pc' := 35) (k := 11) dX6_read_32 rfl rfl ck_7 (by decide) fl_X6_52 rfl rfl rfl rfl ?_
  refine g_aload_n (pc' := 36) dX6_read_35 rfl rfl ?_
  refine g_iconstN (n := 0) (pc' := 37) dX6_read_36 rfl ?_
  refine g_putI (pc' := 40) (k := 12) dX6_read_37 rfl rfl ck_7 (by decide) fl_X6_55 rfl rfl rfl rfl ?_
  refine g_iconstN (n := 0) (pc' := 41) dX6_read_40 rfl ?_
  refine g_istore_n (pc' := 42) dX6_read_41 rfl (by decide) rfl ?_
  try simp only [List.set]
  exact rd_loop hok hb 17 0 0 0 R l (H7 i n h) rfl (by decide) (Nat.zero_le _) (Nat.le_refl _) (st7 hs ha ht).1 ((st7 hs ha ht).2 R l) (kr7 i n h) (fun _ _ q => q)
