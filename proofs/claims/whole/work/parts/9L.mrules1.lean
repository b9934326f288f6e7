/-! the reference takes new rules -/
theorem kS_2 {s : Nat} (h : kS s = 2) : s ≠ 1 ∧ ¬ (137 ≤ s ∧ s ≤ 142 ∨ s = 152) := by
  refine ⟨fun z => by rw [z] at h; exact absurd h (by decide), fun z => ?_⟩
  rcases (show s = 137 ∨ s = 138 ∨ s = 139 ∨ s = 140 ∨ s = 141 ∨ s = 142 ∨ s = 152 by omega) with rfl | rfl | rfl | rfl | rfl | rfl | rfl <;> exact absurd h (by decide)
theorem scr_f {j : Nat} (h : scr j = false) : ¬ (43 ≤ j ∧ j ≤ 51) := fun z => by
  rcases (show j = 43 ∨ j = 44 ∨ j = 45 ∨ j = 46 ∨ j = 47 ∨ j = 48 ∨ j = 49 ∨ j = 50 ∨ j = 51 by omega) with rfl | rfl | rfl | rfl | rfl | rfl | rfl | rfl | rfl <;> exact absurd h (by decide)
theorem MF.mo {h h' : Hp} (k : MF h h') : mo h' = mo h := by
  funext s i
  rcases kS_c s with hm | hm | hm
  · rw [mo_0 hm, mo_0 hm]
  · have := kS_1 hm
    subst this
    cases hc : scr i with
    | true => rw [mo_1s hc, mo_1s hc]
    | false => rw [mo_1 hc, mo_1 hc]; exact k.2.2 i (scr_f hc)
  · have q := kS_2 hm
    rw [mo_2 hm, mo_2 hm, k.2.1 (s, 0) (ad2_ne q.1) q.2]
theorem MF.mk {h h' : Hp} (k : MF h h') : Mk h h' := ⟨k.1, fun a h1 h2 => k.2.1 a (fun z => h1 (by rw [z])) (fun z => by rcases z with z | z <;> omega)⟩
set_option maxRecDepth 4000 in
theorem ru_loop {E : En} (hok : EOK E) {b : Nat → Nat} {n : Nat} (hb : HB b n) {hs h0 : Hp} {Q : Option V → Hp → Prop} : ∀ (u k p c : Nat) (R : Rm) (l : Nat → Nat) (h1 : Hp), u + k = 17 → k ≤ 16 → c ≤ p → p ≤ n → RT b n h1 → h1.1 MO 43 = nI p → h1.1 MO 47 = nI c → h1.1 MO 45 = 0 → CLR k R l c h1 → MF hs h1 → ((prl b n u k p R l).1 = 0 → ∀ h', MF hs h' → Shp h'.2 → h'.1 MO 45 = 0 → ∀ c', c' ≤ n → h'.1 MO 47 = nI c' → CLR (prl b n u k p R l).2.1 (prl b n u k p R l).2.2.1 (prl b n u k p R l).2.2.2 c' h' → G E m_X12_rules 8 0 0 Q h0 128 [some (vR MO), some (vI (nI n)), none, none] [] h' 0 0) → (¬ (prl b n u k p R l).1 = 0 → ∀ h', MF hs h' → h'.1 MO 45 = bdv (prl b n u k p R l).1 (prl b n u k p R l).2.1 → G E m_X12_rules 8 0 0 Q h0 128 [some (vR MO), some (vI (nI n)), none, none] [] h' 0 0) → G E m_X12_rules 8 0 0 Q h0 54 [some (vR MO), some (vI (nI n)), some (vI (nI 1)), none] [] h1 0 0 := by
  have hn := hb.1
  intro u
  induction u with
  | zero =>
    intro k p c R l h1 hu hk
    omega
  | succ u ih =>
    intro k p c R l h1 hu hk hcp hp ht h43 h47 hg hcl hmf Kok Kbad
    have pq := pcl_ok hb hp k
    have pq1 := pq.1
    have pq3 := pq.2.1
    have h256 := hb.2.1 (pcl b k p).2.1
    refine g_iload_n (pc' := 55) dX12_rules_54 rfl rfl ?_
    refine g_if_eqN (tgt := 128) (pc' := 58) dX12_rules_55 rfl (by decide) (by decide) (fun q => False.elim (by revert q; decide)) (fun _ => ?_)
    refine g_aload_n (pc' := 59) dX12_rules_58 rfl rfl ?_
    refine g_invV (pc' := 62) (cm_good hok hg) dX12_rules_59 rfl rfl ck_13 rfl ml_X12_271 im_X12_isGood sl_X12_isGood in_X12 co_X12_isGood pd_X12_isGood rfl (by omega) (by decide) ⟨by decide, by decide⟩ (Nat.le_of_ble_eq_true rfl) ?_
    rintro _ _ ⟨rfl, rfl⟩ -
    refine g_if_eqN (tgt := 128) (pc' := 65) dX12_rules_62 rfl (by decide) (by decide) (fun q => False.elim (by revert q; decide)) (fun _ => ?_)
    refine g_aload_n (pc' := 66) dX12_rules_65 rfl rfl ?_
    refine g_invV (pc' := 69) (cm_clause hok hb ht h43 h47 hg hcp hp hk hcl) dX12_rules_66 rfl rfl ck_13 rfl ml_X12_372 im_X12_clause sl_X12_clause in_X12 co_X12_clause pd_X12_clause rfl (by omega) (by decide) ⟨by decide, by decide⟩ (Nat.le_of_ble_eq_true rfl) ?_
    rintro _ h2 ⟨rfl, mf2, q1, q2⟩ -
    rcases Classical.em ((pcl b k p).1 = 0) with e2 | e2
    ·
      obtain ⟨ht2, hg2, a43, c2, a47, l2, cl2⟩ := q1 e2
      have pq2 := pq.2.2 e2
      clear q1 q2
      refine g_aload_n (pc' := 70) dX12_rules_69 rfl rfl ?_
      refine g_invV (pc' := 73) (cm_good hok hg2) dX12_rules_70 rfl rfl ck_13 rfl ml_X12_271 im_X12_isGood sl_X12_isGood in_X12 co_X12_isGood pd_X12_isGood rfl (by omega) (by decide) ⟨by decide, by decide⟩ (Nat.le_of_ble_eq_true rfl) ?_
      rintro _ _ ⟨rfl, rfl⟩ -
      refine g_if_eqN (tgt := 91) (pc' := 76) dX12_rules_73 rfl (by decide) (by decide) (fun q => False.elim (by revert q; decide)) (fun _ => ?_)
      refine g_aload_n (pc' := 77) dX12_rules_76 rfl rfl ?_
      refine g_getIv (v := nI ((pcl b k p).2.1)) (pc' := 80) (k := 43) dX12_rules_77 rfl rfl ck_13 (by decide) fl_X12_262 rfl (a43) ?_
      refine g_aload_n (pc' := 81) dX12_rules_80 rfl rfl ?_
      refine g_getIv (v := nI (n)) (pc' := 84) (k := 44) dX12_rules_81 rfl rfl ck_13 (by decide) fl_X12_265 rfl (ht2.2.2) ?_
      refine g_icmp_geN (tgt := 91) (pc' := 87) dX12_rules_84 rfl (by decide) (by omega) (by omega) (fun c84 => ?_) (fun c84 => ?_)
      ·
        refine g_iconstN (n := 0) (pc' := 92) dX12_rules_91 rfl ?_
        refine g_istore_n (pc' := 93) dX12_rules_92 rfl (by decide) rfl ?_
        try simp only [List.set]
        refine g_iload_n (pc' := 94) dX12_rules_93 rfl rfl ?_
        refine g_if_eqN (tgt := 54) (pc' := 97) dX12_rules_94 rfl (by decide) (by decide) (fun _ => ?_) (fun q => False.elim (by revert q; decide))
        refine g_iload_n (pc' := 55) dX12_rules_54 rfl rfl ?_
        refine g_if_eqN (tgt := 128) (pc' := 58) dX12_rules_55 rfl (by decide) (by decide) (fun _ => ?_) (fun q => False.elim (by revert q; decide))
        refine G.drop 2 ?_
        simp only [List.set]
        have eq : prl b n (u + 1) k p R l = (0, k + 1, (pud R k ((pcl b k p).2.2.1, (pcl b k p).2.2.2)), (pud l k (b p))) := by rw [prl_s, cif_t e2, cif_t (by omega)]
        rw [eq] at Kok
        exact Kok rfl _ (hmf.tr mf2) ht2.1 hg2 c2 (by omega) a47 cl2
      ·
        refine g_iconstN (n := 1) (pc' := 88) dX12_rules_87 rfl ?_
        refine g_goto (tgt := 92) dX12_rules_88 (by decide) ?_
        refine g_istore_n (pc' := 93) dX12_rules_92 rfl (by decide) rfl ?_
        try simp only [List.set]
        refine g_iload_n (pc' := 94) dX12_rules_93 rfl rfl ?_
        refine g_if_eqN (tgt := 54) (pc' := 97) dX12_rules_94 rfl (by decide) (by decide) (fun q => False.elim (by revert q; decide)) (fun _ => ?_)
        refine g_aload_n (pc' := 98) dX12_rules_97 rfl rfl ?_
        refine g_invV (pc' := 101) (cm_here hok hb ht2 a43 (by omega)) dX12_rules_98 rfl rfl ck_13 rfl ml_X12_288 im_X12_here sl_X12_here in_X12 co_X12_here pd_X12_here rfl (by omega) (by decide) ⟨by decide, by decide⟩ (Nat.le_of_ble_eq_true rfl) ?_
        rintro _ _ ⟨rfl, rfl⟩ -
        refine g_bipushN (n := 59) (pc' := 103) dX12_rules_101 rfl (by decide) ?_
        refine g_icmp_eqN (tgt := 115) (pc' := 106) dX12_rules_103 rfl (by decide) (by omega) (by omega) (fun c103 => ?_) (fun c103 => ?_)
        ·
          refine g_aload_n (pc' := 116) dX12_rules_115 rfl rfl ?_
          refine g_dup (pc' := 117) dX12_rules_116 rfl rfl ?_
          refine g_getIv (v := nI ((pcl b k p).2.1)) (pc' := 120) (k := 43) dX12_rules_117 rfl rfl ck_13 (by decide) fl_X12_262 rfl ((by first | exact a43 | exact (wI_f (by decide)).trans a43)) ?_
          refine g_iconstN (n := 1) (pc' := 121) dX12_rules_120 rfl ?_
          refine g_iaddN (pc' := 122) dX12_rules_121 rfl ?_
          refine g_putI (pc' := 125) (k := 43) dX12_rules_122 rfl rfl ck_13 (by decide) fl_X12_262 rfl rfl rfl rfl ?_
          refine g_goto (tgt := 54) dX12_rules_125 (by decide) ?_
          have eq : prl b n (u + 1) k p R l = prl b n u (k + 1) ((pcl b k p).2.1 + 1) (pud R k ((pcl b k p).2.2.1, (pcl b k p).2.2.2)) (pud l k (b p)) := by rw [prl_s, cif_t e2, cif_f (by omega), cif_t c103]
          rw [eq] at Kok Kbad
          exact ih (k + 1) ((pcl b k p).2.1 + 1) c2 (pud R k ((pcl b k p).2.2.1, (pcl b k p).2.2.2)) (pud l k (b p)) _ (by omega) (by omega) (by omega) (by omega) ht2 rfl a47 hg2 ⟨cl2.1, cl2.2⟩ ((hmf.tr mf2).f (show 43 ≤ 43 ∧ 43 ≤ 51 by decide)) Kok Kbad
        ·
          refine g_aload_n (pc' := 107) dX12_rules_106 rfl rfl ?_
          refine g_iconstN (n := 1) (pc' := 108) dX12_rules_107 rfl ?_
          refine g_aload_n (pc' := 109) dX12_rules_108 rfl rfl ?_
          refine g_getIv (v := nI ((pcl b k p).2.1)) (pc' := 112) (k := 43) dX12_rules_109 rfl rfl ck_13 (by decide) fl_X12_262 rfl (a43) ?_
          refine g_invV (pc' := 115) (cm_wrong hok hg2 1 (pcl b k p).2.1) dX12_rules_112 rfl rfl ck_13 rfl ml_X12_284 im_X12_wrongs sl_X12_wrongs in_X12 co_X12_wrongs pd_X12_wrongs rfl (by omega) (by decide) ⟨by decide, by decide⟩ (Nat.le_of_ble_eq_true rfl) ?_
          rintro _ _ ⟨rfl, rfl⟩ -
          refine g_aload_n (pc' := 116) dX12_rules_115 rfl rfl ?_
          refine g_dup (pc' := 117) dX12_rules_116 rfl rfl ?_
          refine g_getIv (v := nI ((pcl b k p).2.1)) (pc' := 120) (k := 43) dX12_rules_117 rfl rfl ck_13 (by decide) fl_X12_262 rfl ((by first | exact a43 | exact (wI_f (by decide)).trans a43)) ?_
          refine g_iconstN (n := 1) (pc' := 121) dX12_rules_120 rfl ?_
          refine g_iaddN (pc' := 122) dX12_rules_121 rfl ?_
          refine g_putI (pc' := 125) (k := 43) dX12_rules_122 rfl rfl ck_13 (by decide) fl_X12_262 rfl rfl rfl rfl ?_
          refine g_goto (tgt := 54) dX12_rules_125 (by decide) ?_
          have e453 : (wI (wI h2 MO 45 (bdv 1 (pcl b k p).2.1)) MO 43 (nI ((pcl b k p).2.1 + 1))).1 MO 45 = bdv 1 (pcl b k p).2.1 := by rw [wI_f (by decide), wI_same]
          have hbad3 : ¬ (wI (wI h2 MO 45 (bdv 1 (pcl b k p).2.1)) MO 43 (nI ((pcl b k p).2.1 + 1))).1 MO 45 = 0 := by
            rw [e453]
            exact bdv_ne (by decide) (by decide) (by omega)
          refine g_iload_n (pc' := 55) dX12_rules_54 rfl rfl ?_
          refine g_if_eqN (tgt := 128) (pc' := 58) dX12_rules_55 rfl (by decide) (by decide) (fun q => False.elim (by revert q; decide)) (fun _ => ?_)
          refine g_aload_n (pc' := 59) dX12_rules_58 rfl rfl ?_
          refine g_invV (pc' := 62) (cm_bad hok hbad3) dX12_rules_59 rfl rfl ck_13 rfl ml_X12_271 im_X12_isGood sl_X12_isGood in_X12 co_X12_isGood pd_X12_isGood rfl (by omega) (by decide) ⟨by decide, by decide⟩ (Nat.le_of_ble_eq_true rfl) ?_
          rintro _ _ ⟨rfl, rfl⟩ -
          refine g_if_eqN (tgt := 128) (pc' := 65) dX12_rules_62 rfl (by decide) (by decide) (fun _ => ?_) (fun q => False.elim (by revert q; decide))
          refine G.drop 2 ?_
          simp only [List.set]
          have eq : prl b n (u + 1) k p R l = (1, (pcl b k p).2.1, R, l) := by rw [prl_s, cif_t e2, cif_f (by omega), cif_f c103]
          rw [eq] at Kbad
          exact Kbad (by show ¬ (1 : Nat) = 0; decide) _ (((hmf.tr mf2).f (show 43 ≤ 45 ∧ 45 ≤ 51 by decide)).f (show 43 ≤ 43 ∧ 43 ≤ 51 by decide)) e453
    ·
      have e45 := q2 e2
      clear q1 q2
      have hbad : ¬ h2.1 MO 45 = 0 := by
        rw [e45]
        exact bdv_ne (by omega) (by omega) (by omega)
      refine g_aload_n (pc' := 70) dX12_rules_69 rfl rfl ?_
      refine g_invV (pc' := 73) (cm_bad hok hbad) dX12_rules_70 rfl rfl ck_13 rfl ml_X12_271 im_X12_isGood sl_X12_isGood in_X12 co_X12_isGood pd_X12_isGood rfl (by omega) (by decide) ⟨by decide, by decide⟩ (Nat.le_of_ble_eq_true rfl) ?_
      rintro _ _ ⟨rfl, rfl⟩ -
      refine g_if_eqN (tgt := 91) (pc' := 76) dX12_rules_73 rfl (by decide) (by decide) (fun _ => ?_) (fun q => False.elim (by revert q; decide))
      refine g_iconstN (n := 0) (pc' := 92) dX12_rules_91 rfl ?_
      refine g_istore_n (pc' := 93) dX12_rules_92 rfl (by decide) rfl ?_
      try simp only [List.set]
      refine g_iload_n (pc' := 94) dX12_rules_93 rfl rfl ?_
      refine g_if_eqN (tgt := 54) (pc' := 97) dX12_rules_94 rfl (by decide) (by decide) (fun _ => ?_) (fun q => False.elim (by revert q; decide))
      refine g_iload_n (pc' := 55) dX12_rules_54 rfl rfl ?_
      refine g_if_eqN (tgt := 128) (pc' := 58) dX12_rules_55 rfl (by decide) (by decide) (fun _ => ?_) (fun q => False.elim (by revert q; decide))
      refine G.drop 2 ?_
      simp only [List.set]
      have eq : prl b n (u + 1) k p R l = ((pcl b k p).1, (pcl b k p).2.1, R, l) := by rw [prl_s, cif_f e2]
      rw [eq] at Kbad
      exact Kbad e2 _ (hmf.tr mf2) e45
def C1P (hb : Hp) (t : Nat) (h : Hp) : Prop := h.2 = hb.2 ∧ (∀ a : Ad, ¬ (131 ≤ a.1 ∧ a.1 ≤ 134) → h.1 a = hb.1 a) ∧ ∀ j, j < t → h.1 (131, 0) j = hb.1 (137, 0) j ∧ h.1 (132, 0) j = hb.1 (138, 0) j ∧ h.1 (133, 0) j = hb.1 (139, 0) j ∧ h.1 (134, 0) j = hb.1 (140, 0) j
def C2P (hb : Hp) (t : Nat) (h : Hp) : Prop := h.2 = hb.2 ∧ (∀ a : Ad, ¬ (135 ≤ a.1 ∧ a.1 ≤ 136) → h.1 a = hb.1 a) ∧ ∀ j, j < t → h.1 (135, 0) j = hb.1 (141, 0) j ∧ h.1 (136, 0) j = hb.1 (142, 0) j
def c4H (t : Nat) (h : Hp) : Hp := wI (wI (wI (wI h (131, 0) t (h.1 (137, 0) t)) (132, 0) t (h.1 (138, 0) t)) (133, 0) t (h.1 (139, 0) t)) (134, 0) t (h.1 (140, 0) t)
def c2H (t : Nat) (h : Hp) : Hp := wI (wI h (135, 0) t (h.1 (141, 0) t)) (136, 0) t (h.1 (142, 0) t)
theorem C1P.s {hb h : Hp} {t : Nat} (q : C1P hb t h) : C1P hb (t + 1) (c4H t h) := by
  refine ⟨q.1, fun a ha => ?_, fun j hj => ?_⟩
  · unfold c4H
    rw [wI_off _ _ _ _ a (fun z => ha (by rw [z]; decide)), wI_off _ _ _ _ a (fun z => ha (by rw [z]; decide)), wI_off _ _ _ _ a (fun z => ha (by rw [z]; decide)), wI_off _ _ _ _ a (fun z => ha (by rw [z]; decide))]
    exact q.2.1 a ha
  · have e : ∀ s : Nat, ¬ (131 ≤ s ∧ s ≤ 134) → h.1 (s, 0) t = hb.1 (s, 0) t := fun s hs => by rw [q.2.1 (s, 0) hs]
    by_cases z : j = t
    · subst z
      exact ⟨(wI_same h (131, 0) j (h.1 (137, 0) j)).trans (e 137 (by decide)), (wI_same (wI h (131, 0) j (h.1 (137, 0) j)) (132, 0) j (h.1 (138, 0) j)).trans (e 138 (by decide)), (wI_same (wI (wI h (131, 0) j (h.1 (137, 0) j)) (132, 0) j (h.1 (138, 0) j)) (133, 0) j (h.1 (139, 0) j)).trans (e 139 (by decide)), (wI_same _ _ _ _).trans (e 140 (by decide))⟩
    · have q2 := q.2.2 j (by omega)
      exact ⟨(show (wI h (131, 0) t (h.1 (137, 0) t)).1 (131, 0) j = _ from wI_f z).trans q2.1, (show (wI (wI h (131, 0) t (h.1 (137, 0) t)) (132, 0) t (h.1 (138, 0) t)).1 (132, 0) j = h.1 (132, 0) j from wI_f z).trans q2.2.1, (show (wI (wI (wI h (131, 0) t (h.1 (137, 0) t)) (132, 0) t (h.1 (138, 0) t)) (133, 0) t (h.1 (139, 0) t)).1 (133, 0) j = h.1 (133, 0) j from wI_f z).trans q2.2.2.1, (show (c4H t h).1 (134, 0) j = h.1 (134, 0) j from wI_f z).trans q2.2.2.2⟩
theorem C2P.s {hb h : Hp} {t : Nat} (q : C2P hb t h) : C2P hb (t + 1) (c2H t h) := by
  refine ⟨q.1, fun a ha => ?_, fun j hj => ?_⟩
  · unfold c2H
    rw [wI_off _ _ _ _ a (fun z => ha (by rw [z]; decide)), wI_off _ _ _ _ a (fun z => ha (by rw [z]; decide))]
    exact q.2.1 a ha
  · have e : ∀ s : Nat, ¬ (135 ≤ s ∧ s ≤ 136) → h.1 (s, 0) t = hb.1 (s, 0) t := fun s hs => by rw [q.2.1 (s, 0) hs]
    by_cases z : j = t
    · subst z
      exact ⟨(wI_same h (135, 0) j (h.1 (141, 0) j)).trans (e 141 (by decide)), (wI_same (wI h (135, 0) j (h.1 (141, 0) j)) (136, 0) j (h.1 (142, 0) j)).trans (e 142 (by decide))⟩
    · have q2 := q.2.2 j (by omega)
      exact ⟨(show (wI h (135, 0) t (h.1 (141, 0) t)).1 (135, 0) j = _ from wI_f z).trans q2.1, (show (c2H t h).1 (136, 0) j = h.1 (136, 0) j from wI_f z).trans q2.2⟩
set_option maxRecDepth 4000 in
theorem cp_1 {E : En} (hok : EOK E) {n K : Nat} (hK : K ≤ 16) {hb h0 : Hp} {Q : Option V → Hp → Prop} (hs : Shp hb.2) (hk : hb.1 MO 46 = nI K) (hQ : ∀ h', C1P hb K h' → G E m_X12_rules 8 0 0 Q h0 204 [some (vR MO), some (vI (nI n)), none, none] [] h' 0 0) : ∀ (d t : Nat) (h1 : Hp), t ≤ K → K - t = d → C1P hb t h1 → G E m_X12_rules 8 0 0 Q h0 142 [some (vR MO), some (vI (nI n)), none, some (vI (nI t))] [] h1 0 0 := by
  intro d
  induction d with
  | zero =>
    intro t h1 ht hd cp
    have hs0 := hs
    have hs : Shp h1.2 := by rw [cp.1]; exact hs0
    have hk1 : h1.1 MO 46 = nI K := by rw [cp.2.1 MO (by decide)]; exact hk
    refine g_iload_n (pc' := 143) dX12_rules_142 rfl rfl ?_
    refine g_aload_n (pc' := 144) dX12_rules_143 rfl rfl ?_
    refine g_getIv (v := nI (K)) (pc' := 147) (k := 46) dX12_rules_144 rfl rfl ck_13 (by decide) fl_X12_364 rfl (hk1) ?_
    refine g_icmp_geN (tgt := 204) (pc' := 150) dX12_rules_147 rfl (by decide) (by omega) (by omega) (fun c147 => ?_) (fun c147 => ?_)
    ·
      refine G.drop 3 ?_
      simp only [List.set]
      have e : t = K := by omega
      subst e
      exact hQ h1 cp
    · exact absurd c147 (by omega)
  | succ d ih =>
    intro t h1 ht hd cp
    have hs0 := hs
    have hs : Shp h1.2 := by rw [cp.1]; exact hs0
    have hk1 : h1.1 MO 46 = nI K := by rw [cp.2.1 MO (by decide)]; exact hk
    refine g_iload_n (pc' := 143) dX12_rules_142 rfl rfl ?_
    refine g_aload_n (pc' := 144) dX12_rules_143 rfl rfl ?_
    refine g_getIv (v := nI (K)) (pc' := 147) (k := 46) dX12_rules_144 rfl rfl ck_13 (by decide) fl_X12_364 rfl (hk1) ?_
    refine g_icmp_geN (tgt := 204) (pc' := 150) dX12_rules_147 rfl (by decide) (by omega) (by omega) (fun c147 => ?_) (fun c147 => ?_)
    · exact absurd c147 (by omega)
    ·
      refine g_aload_n (pc' := 151) dX12_rules_150 rfl rfl ?_
      refine g_getS (pc' := 154) (k := 31) (b := (131, 0)) dX12_rules_151 rfl rfl ck_13 (by decide) fl_X12_81 rfl hs rfl ?_
      refine g_iload_n (pc' := 155) dX12_rules_154 rfl rfl ?_
      refine g_aload_n (pc' := 156) dX12_rules_155 rfl rfl ?_
      refine g_getS (pc' := 159) (k := 37) (b := (137, 0)) dX12_rules_156 rfl rfl ck_13 (by decide) fl_X12_99 rfl hs rfl ?_
      refine g_iload_n (pc' := 160) dX12_rules_159 rfl rfl ?_
      refine g_ialdN (pc' := 161) (v := _) dX12_rules_160 rfl rfl (by decide) (by omega) (rfl) ?_
      refine g_iastN (pc' := 162) dX12_rules_161 rfl rfl (by decide) (by omega) ?_
      refine g_aload_n (pc' := 163) dX12_rules_162 rfl rfl ?_
      refine g_getS (pc' := 166) (k := 32) (b := (132, 0)) dX12_rules_163 rfl rfl ck_13 (by decide) fl_X12_84 rfl hs rfl ?_
      refine g_iload_n (pc' := 167) dX12_rules_166 rfl rfl ?_
      refine g_aload_n (pc' := 168) dX12_rules_167 rfl rfl ?_
      refine g_getS (pc' := 171) (k := 38) (b := (138, 0)) dX12_rules_168 rfl rfl ck_13 (by decide) fl_X12_102 rfl hs rfl ?_
      refine g_iload_n (pc' := 172) dX12_rules_171 rfl rfl ?_
      refine g_ialdN (pc' := 173) (v := _) dX12_rules_172 rfl rfl (by decide) (by omega) (rfl) ?_
      refine g_iastN (pc' := 174) dX12_rules_173 rfl rfl (by decide) (by omega) ?_
      refine g_aload_n (pc' := 175) dX12_rules_174 rfl rfl ?_
      refine g_getS (pc' := 178) (k := 33) (b := (133, 0)) dX12_rules_175 rfl rfl ck_13 (by decide) fl_X12_87 rfl hs rfl ?_
      refine g_iload_n (pc' := 179) dX12_rules_178 rfl rfl ?_
      refine g_aload_n (pc' := 180) dX12_rules_179 rfl rfl ?_
      refine g_getS (pc' := 183) (k := 39) (b := (139, 0)) dX12_rules_180 rfl rfl ck_13 (by decide) fl_X12_105 rfl hs rfl ?_
      refine g_iload_n (pc' := 184) dX12_rules_183 rfl rfl ?_
      refine g_ialdN (pc' := 185) (v := _) dX12_rules_184 rfl rfl (by decide) (by omega) (rfl) ?_
      refine g_iastN (pc' := 186) dX12_rules_185 rfl rfl (by decide) (by omega) ?_
      refine g_aload_n (pc' := 187) dX12_rules_186 rfl rfl ?_
      refine g_getS (pc' := 190) (k := 34) (b := (134, 0)) dX12_rules_187 rfl rfl ck_13 (by decide) fl_X12_90 rfl hs rfl ?_
      refine g_iload_n (pc' := 191) dX12_rules_190 rfl rfl ?_
      refine g_aload_n (pc' := 192) dX12_rules_191 rfl rfl ?_
      refine g_getS (pc' := 195) (k := 40) (b := (140, 0)) dX12_rules_192 rfl rfl ck_13 (by decide) fl_X12_108 rfl hs rfl ?_
      refine g_iload_n (pc' := 196) dX12_rules_195 rfl rfl ?_
      refine g_ialdN (pc' := 197) (v := _) dX12_rules_196 rfl rfl (by decide) (by omega) (rfl) ?_
      refine g_iastN (pc' := 198) dX12_rules_197 rfl rfl (by decide) (by omega) ?_
      refine g_iincN (k := 1) (pc' := 201) dX12_rules_198 rfl rfl (by decide) rfl ?_
      try simp only [List.set]
      refine g_goto (tgt := 142) dX12_rules_201 (by decide) ?_
      exact ih (t + 1) (c4H t h1) (by omega) (by omega) cp.s
set_option maxRecDepth 4000 in
theorem cp_2 {E : En} (hok : EOK E) {n K : Nat} (hK : K ≤ 200) {hb h0 : Hp} {Q : Option V → Hp → Prop} (hs : Shp hb.2) (hk : hb.1 MO 47 = nI K) (hQ : ∀ h', C2P hb K h' → G E m_X12_rules 8 0 0 Q h0 244 [some (vR MO), some (vI (nI n)), none, none] [] h' 0 0) : ∀ (d t : Nat) (h1 : Hp), t ≤ K → K - t = d → C2P hb t h1 → G E m_X12_rules 8 0 0 Q h0 206 [some (vR MO), some (vI (nI n)), none, some (vI (nI t))] [] h1 0 0 := by
  intro d
  induction d with
  | zero =>
    intro t h1 ht hd cp
    have hs0 := hs
    have hs : Shp h1.2 := by rw [cp.1]; exact hs0
    have hk1 : h1.1 MO 47 = nI K := by rw [cp.2.1 MO (by decide)]; exact hk
    refine g_iload_n (pc' := 207) dX12_rules_206 rfl rfl ?_
    refine g_aload_n (pc' := 208) dX12_rules_207 rfl rfl ?_
    refine g_getIv (v := nI (K)) (pc' := 211) (k := 47) dX12_rules_208 rfl rfl ck_13 (by decide) fl_X12_275 rfl (hk1) ?_
    refine g_icmp_geN (tgt := 244) (pc' := 214) dX12_rules_211 rfl (by decide) (by omega) (by omega) (fun c211 => ?_) (fun c211 => ?_)
    ·
      refine G.drop 3 ?_
      simp only [List.set]
      have e : t = K := by omega
      subst e
      exact hQ h1 cp
    · exact absurd c211 (by omega)
  | succ d ih =>
    intro t h1 ht hd cp
    have hs0 := hs
    have hs : Shp h1.2 := by rw [cp.1]; exact hs0
    have hk1 : h1.1 MO 47 = nI K := by rw [cp.2.1 MO (by decide)]; exact hk
    refine g_iload_n (pc' := 207) dX12_rules_206 rfl rfl ?_
    refine g_aload_n (pc' := 208) dX12_rules_207 rfl rfl ?_
    refine g_getIv (v := nI (K)) (pc' := 211) (k := 47) dX12_rules_208 rfl rfl ck_13 (by decide) fl_X12_275 rfl (hk1) ?_
    refine g_icmp_geN (tgt := 244) (pc' := 214) dX12_rules_211 rfl (by decide) (by omega) (by omega) (fun c211 => ?_) (fun c211 => ?_)
    · exact absurd c211 (by omega)
    ·
      refine g_aload_n (pc' := 215) dX12_rules_214 rfl rfl ?_
      refine g_getS (pc' := 218) (k := 35) (b := (135, 0)) dX12_rules_215 rfl rfl ck_13 (by decide) fl_X12_93 rfl hs rfl ?_
      refine g_iload_n (pc' := 219) dX12_rules_218 rfl rfl ?_
      refine g_aload_n (pc' := 220) dX12_rules_219 rfl rfl ?_
      refine g_getS (pc' := 223) (k := 41) (b := (141, 0)) dX12_rules_220 rfl rfl ck_13 (by decide) fl_X12_111 rfl hs rfl ?_
      refine g_iload_n (pc' := 224) dX12_rules_223 rfl rfl ?_
      refine g_ialdN (pc' := 225) (v := _) dX12_rules_224 rfl rfl (by decide) (by omega) (rfl) ?_
      refine g_iastN (pc' := 226) dX12_rules_225 rfl rfl (by decide) (by omega) ?_
      refine g_aload_n (pc' := 227) dX12_rules_226 rfl rfl ?_
      refine g_getS (pc' := 230) (k := 36) (b := (136, 0)) dX12_rules_227 rfl rfl ck_13 (by decide) fl_X12_96 rfl hs rfl ?_
      refine g_iload_n (pc' := 231) dX12_rules_230 rfl rfl ?_
      refine g_aload_n (pc' := 232) dX12_rules_231 rfl rfl ?_
      refine g_getS (pc' := 235) (k := 42) (b := (142, 0)) dX12_rules_232 rfl rfl ck_13 (by decide) fl_X12_114 rfl hs rfl ?_
      refine g_iload_n (pc' := 236) dX12_rules_235 rfl rfl ?_
      refine g_ialdN (pc' := 237) (v := _) dX12_rules_236 rfl rfl (by decide) (by omega) (rfl) ?_
      refine g_iastN (pc' := 238) dX12_rules_237 rfl rfl (by decide) (by omega) ?_
      refine g_iincN (k := 1) (pc' := 241) dX12_rules_238 rfl rfl (by decide) rfl ?_
      try simp only [List.set]
      refine g_goto (tgt := 206) dX12_rules_241 (by decide) ?_
      exact ih (t + 1) (c2H t h1) (by omega) (by omega) cp.s
