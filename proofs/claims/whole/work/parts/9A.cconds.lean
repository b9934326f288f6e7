/-! the class reads conditions -/
def CC1 (E : En) (y : Mt) (k : Nat) (b : Nat → Nat) (n i u md : Nat) : Prop := ∀ (A : Mng) (o p s : Nat) (h : Hp), o ≤ 6 → s ≤ p → p ≤ n → ST b n i s p s h h → (pc b u md A o p).1 ≠ 9 → Call E y (4 * (6 - o) + k) 0 0 [vR (6, i), vI (nI o)] h (PB b n i true p s (pc b u md A o p) h)
def LC1 (E : En) (y : Mt) (k : Nat) (b : Nat → Nat) (n i u md : Nat) : Prop := ∀ (A : Mng) (o p0 s0 p s kk : Nat) (h h1 h0 : Hp) (Q : Option V → Hp → Prop), o ≤ 6 → s0 < s → s ≤ p → s + p0 ≤ s0 + p → p ≤ n → kk ≤ p → ST b n i s0 p s h h1 → SC (h1.1 (35, i)) (h1.1 (36, i)) s0 s true A → (pc b u md A o p).1 ≠ 9 → (∀ v h2, PB b n i true p0 s0 (pc b u md A o p) h v h2 → Q v h2) → G E y (4 * (6 - o) + k) 0 0 Q h0 8 [some (vR (6, i)), some (vI (nI o)), some (vI (nI 1)), some (vI (nI kk)), none] [] h1 0 0
set_option maxRecDepth 4000 in
theorem comp_step {E : En} (hok : EOK E) {b : Nat → Nat} {n i u : Nat} (hb : HB b n) : CC1 E m_X6_readComparison 7 b n i (u + 1) 0 := by
  intro A o p s h ho hsp hp hst hne
  have hn := hb.1
  refine Call.enter hok (by decide) (Nat.le_of_ble_eq_true rfl) ?_
  show G E m_X6_readComparison (4 * (6 - o) + 7) 0 0 _ h 0 [some (vR (6, i)), some (vI (nI o)), none, none] [] h 0 0
  refine g_aload_n (pc' := 1) dX6_readComparison_0 rfl rfl ?_
  refine g_iload_n (pc' := 2) dX6_readComparison_1 rfl rfl ?_
  refine g_invV (pc' := 5) (cr_expr hok hb A ho hsp hp hst) dX6_readComparison_2 rfl rfl ck_7 rfl ml_X6_79 im_X6_readExpression sl_X6_readExpression in_X6 co_X6_readExpression pd_X6_readExpression rfl (by omega) (by decide) ⟨by decide, by decide⟩ (Nat.le_of_ble_eq_true rfl) ?_
  rintro _ h2 ⟨rfl, q1, q2⟩ -
  rcases Classical.em ((px b 1000 3 A o p).1 = 0) with e2 | e2
  ·
    obtain ⟨s2, hst2, l12, l22, sc2⟩ := q1 e2
    rw [show bi ((px b 1000 3 A o p).1 = 0) = nI 1 from bi_t e2]
    refine g_if_neN (tgt := 10) (pc' := 8) dX6_readComparison_5 rfl (by decide) (by decide) (fun _ => ?_) (fun q => False.elim (by revert q; decide))
    have pq := px_ok hb 1000 3 A o p hp
    have pq1 := pq.1
    refine g_aload_n (pc' := 11) dX6_readComparison_10 rfl rfl ?_
    refine g_invV (pc' := 14) (cr_here hok hb hst2 pq1) dX6_readComparison_11 rfl rfl ck_7 rfl ml_X6_66 im_X6_here sl_X6_here in_X6 co_X6_here pd_X6_here rfl (by omega) (by decide) ⟨by decide, by decide⟩ (Nat.le_of_ble_eq_true rfl) ?_
    rintro _ _ ⟨rfl, rfl⟩ -
    refine g_istore_n (pc' := 15) dX6_readComparison_14 rfl (by decide) rfl ?_
    try simp only [List.set]
    refine g_iload_n (pc' := 16) dX6_readComparison_15 rfl rfl ?_
    refine g_bipushN (n := 60) (pc' := 18) dX6_readComparison_16 rfl (by decide) ?_
    refine g_icmp_eq (tgt := 39) (pc' := 21) dX6_readComparison_18 rfl (by decide) (fun c18 => ?_) (fun c18 => ?_)
    ·
      have cm : isCm (b (px b 1000 3 A o p).2.1) := by
        first
        | exact Or.inl ((hrc_eq hb (by decide) (by decide)).mp c18)
        | exact Or.inr (Or.inl ((hrc_eq hb (by decide) (by decide)).mp c24))
        | exact Or.inr (Or.inr ((hrc_eq hb (by decide) (by decide)).mp c30))
      have hlt := hb.lt (isCm_ne cm)
      rw [hrc_t hlt]
      have pr := px_ok hb 1000 3 A o ((px b 1000 3 A o p).2.1 + 1) (by omega)
      have pr1 := pr.1
      refine g_aload_n (pc' := 40) dX6_readComparison_39 rfl rfl ?_
      refine g_dup (pc' := 41) dX6_readComparison_40 rfl rfl ?_
      refine g_getIv (v := nI ((px b 1000 3 A o p).2.1)) (pc' := 44) (k := 8) dX6_readComparison_41 rfl rfl ck_7 (by decide) fl_X6_43 rfl (hst2.2.2.1) ?_
      refine g_iconstN (n := 1) (pc' := 45) dX6_readComparison_44 rfl ?_
      refine g_iaddN (pc' := 46) dX6_readComparison_45 rfl ?_
      refine g_putI (pc' := 49) (k := 8) dX6_readComparison_46 rfl rfl ck_7 (by decide) fl_X6_43 rfl rfl rfl rfl ?_
      refine g_aload_n (pc' := 50) dX6_readComparison_49 rfl rfl ?_
      refine g_iload_n (pc' := 51) dX6_readComparison_50 rfl rfl ?_
      refine g_invV (pc' := 54) (cr_expr hok hb A ho (by omega) (by omega) (ST.re (ST.at (q := (px b 1000 3 A o p).2.1 + 1) hst2) s2)) dX6_readComparison_51 rfl rfl ck_7 rfl ml_X6_79 im_X6_readExpression sl_X6_readExpression in_X6 co_X6_readExpression pd_X6_readExpression rfl (by omega) (by decide) ⟨by decide, by decide⟩ (Nat.le_of_ble_eq_true rfl) ?_
      rintro _ h3 ⟨rfl, q1, q2⟩ -
      rcases Classical.em ((px b 1000 3 A o ((px b 1000 3 A o p).2.1 + 1)).1 = 0) with e3 | e3
      ·
        obtain ⟨s3, hst3, l13, l23, sc3⟩ := q1 e3
        rw [show bi ((px b 1000 3 A o ((px b 1000 3 A o p).2.1 + 1)).1 = 0) = nI 1 from bi_t e3]
        refine g_istore_n (pc' := 55) dX6_readComparison_54 rfl (by decide) rfl ?_
        try simp only [List.set]
        refine g_aload_n (pc' := 56) dX6_readComparison_55 rfl rfl ?_
        refine g_iload_n (pc' := 57) dX6_readComparison_56 rfl rfl ?_
        refine g_iconstN (n := 0) (pc' := 58) dX6_readComparison_57 rfl ?_
        refine g_invV (pc' := 61) (cr_add hok hst3.1.1 hst3.2.2.2 (by omega) _ _) dX6_readComparison_58 rfl rfl ck_7 rfl ml_X6_91 im_X6_addStep sl_X6_addStep in_X6 co_X6_addStep pd_X6_addStep rfl (by omega) (by decide) ⟨by decide, by decide⟩ (Nat.le_of_ble_eq_true rfl) ?_
        rintro _ _ ⟨rfl, rfl⟩ -
        refine g_iload_n (pc' := 62) dX6_readComparison_61 rfl rfl ?_
        refine g_zret dX6_readComparison_62 rfl (by rfl) (by decide) (by decide) ?_
        show PB b n i true p s (pc b (u + 1) 0 A o p) h _ _
        rw [pc_0, bnd_t e2]
        rw [cif_t cm]
        rw [bnd_t e3]
        exact PB.ok rfl ⟨s3 + 1, ST.as (c := nI (b (px b 1000 3 A o p).2.1)) (a := nI 0) (ST.tr (ST.at (q := (px b 1000 3 A o p).2.1 + 1) hst2) hst3 (by omega)) (by omega) (by omega), by omega, by show s3 + 1 + p ≤ s + (px b 1000 3 A o ((px b 1000 3 A o p).2.1 + 1)).2.1; omega, SC.asC (SC.kt (h := wI h2 (6, i) 8 (nI ((px b 1000 3 A o p).2.1 + 1))) sc2 hst3.2.1 (Nat.le_refl s2)) sc3 cm (by omega)⟩
      ·
        have fb := q2 e3
        obtain ⟨s3, l13, l23, e9⟩ := fb.2.2.1
        rw [show bi ((px b 1000 3 A o ((px b 1000 3 A o p).2.1 + 1)).1 = 0) = nI 0 from bi_f e3]
        refine g_istore_n (pc' := 55) dX6_readComparison_54 rfl (by decide) rfl ?_
        try simp only [List.set]
        refine g_aload_n (pc' := 56) dX6_readComparison_55 rfl rfl ?_
        refine g_iload_n (pc' := 57) dX6_readComparison_56 rfl rfl ?_
        refine g_iconstN (n := 0) (pc' := 58) dX6_readComparison_57 rfl ?_
        refine g_invV (pc' := 61) (cr_add hok fb.1.1 e9 l23 _ _) dX6_readComparison_58 rfl rfl ck_7 rfl ml_X6_91 im_X6_addStep sl_X6_addStep in_X6 co_X6_addStep pd_X6_addStep rfl (by omega) (by decide) ⟨by decide, by decide⟩ (Nat.le_of_ble_eq_true rfl) ?_
        rintro _ _ ⟨rfl, rfl⟩ -
        refine g_iload_n (pc' := 62) dX6_readComparison_61 rfl rfl ?_
        refine g_zret dX6_readComparison_62 rfl (by rfl) (by decide) (by decide) ?_
        show PB b n i true p s (pc b (u + 1) 0 A o p) h _ _
        rw [pc_0, bnd_t e2]
        rw [cif_t cm]
        rw [bnd_f e3]
        exact PB.no e3 ((FB.tr (ST.at (q := (px b 1000 3 A o p).2.1 + 1) hst2) fb (by omega)).as (by omega) l23 e9)
    ·
      refine g_iload_n (pc' := 22) dX6_readComparison_21 rfl rfl ?_
      refine g_bipushN (n := 62) (pc' := 24) dX6_readComparison_22 rfl (by decide) ?_
      refine g_icmp_eq (tgt := 39) (pc' := 27) dX6_readComparison_24 rfl (by decide) (fun c24 => ?_) (fun c24 => ?_)
      ·
        have cm : isCm (b (px b 1000 3 A o p).2.1) := by
          first
          | exact Or.inl ((hrc_eq hb (by decide) (by decide)).mp c18)
          | exact Or.inr (Or.inl ((hrc_eq hb (by decide) (by decide)).mp c24))
          | exact Or.inr (Or.inr ((hrc_eq hb (by decide) (by decide)).mp c30))
        have hlt := hb.lt (isCm_ne cm)
        rw [hrc_t hlt]
        have pr := px_ok hb 1000 3 A o ((px b 1000 3 A o p).2.1 + 1) (by omega)
        have pr1 := pr.1
        refine g_aload_n (pc' := 40) dX6_readComparison_39 rfl rfl ?_
        refine g_dup (pc' := 41) dX6_readComparison_40 rfl rfl ?_
        refine g_getIv (v := nI ((px b 1000 3 A o p).2.1)) (pc' := 44) (k := 8) dX6_readComparison_41 rfl rfl ck_7 (by decide) fl_X6_43 rfl (hst2.2.2.1) ?_
        refine g_iconstN (n := 1) (pc' := 45) dX6_readComparison_44 rfl ?_
        refine g_iaddN (pc' := 46) dX6_readComparison_45 rfl ?_
        refine g_putI (pc' := 49) (k := 8) dX6_readComparison_46 rfl rfl ck_7 (by decide) fl_X6_43 rfl rfl rfl rfl ?_
        refine g_aload_n (pc' := 50) dX6_readComparison_49 rfl rfl ?_
        refine g_iload_n (pc' := 51) dX6_readComparison_50 rfl rfl ?_
        refine g_invV (pc' := 54) (cr_expr hok hb A ho (by omega) (by omega) (ST.re (ST.at (q := (px b 1000 3 A o p).2.1 + 1) hst2) s2)) dX6_readComparison_51 rfl rfl ck_7 rfl ml_X6_79 im_X6_readExpression sl_X6_readExpression in_X6 co_X6_readExpression pd_X6_readExpression rfl (by omega) (by decide) ⟨by decide, by decide⟩ (Nat.le_of_ble_eq_true rfl) ?_
        rintro _ h3 ⟨rfl, q1, q2⟩ -
        rcases Classical.em ((px b 1000 3 A o ((px b 1000 3 A o p).2.1 + 1)).1 = 0) with e3 | e3
        ·
          obtain ⟨s3, hst3, l13, l23, sc3⟩ := q1 e3
          rw [show bi ((px b 1000 3 A o ((px b 1000 3 A o p).2.1 + 1)).1 = 0) = nI 1 from bi_t e3]
          refine g_istore_n (pc' := 55) dX6_readComparison_54 rfl (by decide) rfl ?_
          try simp only [List.set]
          refine g_aload_n (pc' := 56) dX6_readComparison_55 rfl rfl ?_
          refine g_iload_n (pc' := 57) dX6_readComparison_56 rfl rfl ?_
          refine g_iconstN (n := 0) (pc' := 58) dX6_readComparison_57 rfl ?_
          refine g_invV (pc' := 61) (cr_add hok hst3.1.1 hst3.2.2.2 (by omega) _ _) dX6_readComparison_58 rfl rfl ck_7 rfl ml_X6_91 im_X6_addStep sl_X6_addStep in_X6 co_X6_addStep pd_X6_addStep rfl (by omega) (by decide) ⟨by decide, by decide⟩ (Nat.le_of_ble_eq_true rfl) ?_
          rintro _ _ ⟨rfl, rfl⟩ -
          refine g_iload_n (pc' := 62) dX6_readComparison_61 rfl rfl ?_
          refine g_zret dX6_readComparison_62 rfl (by rfl) (by decide) (by decide) ?_
          show PB b n i true p s (pc b (u + 1) 0 A o p) h _ _
          rw [pc_0, bnd_t e2]
          rw [cif_t cm]
          rw [bnd_t e3]
          exact PB.ok rfl ⟨s3 + 1, ST.as (c := nI (b (px b 1000 3 A o p).2.1)) (a := nI 0) (ST.tr (ST.at (q := (px b 1000 3 A o p).2.1 + 1) hst2) hst3 (by omega)) (by omega) (by omega), by omega, by show s3 + 1 + p ≤ s + (px b 1000 3 A o ((px b 1000 3 A o p).2.1 + 1)).2.1; omega, SC.asC (SC.kt (h := wI h2 (6, i) 8 (nI ((px b 1000 3 A o p).2.1 + 1))) sc2 hst3.2.1 (Nat.le_refl s2)) sc3 cm (by omega)⟩
        ·
          have fb := q2 e3
          obtain ⟨s3, l13, l23, e9⟩ := fb.2.2.1
          rw [show bi ((px b 1000 3 A o ((px b 1000 3 A o p).2.1 + 1)).1 = 0) = nI 0 from bi_f e3]
          refine g_istore_n (pc' := 55) dX6_readComparison_54 rfl (by decide) rfl ?_
          try simp only [List.set]
          refine g_aload_n (pc' := 56) dX6_readComparison_55 rfl rfl ?_
          refine g_iload_n (pc' := 57) dX6_readComparison_56 rfl rfl ?_
          refine g_iconstN (n := 0) (pc' := 58) dX6_readComparison_57 rfl ?_
          refine g_invV (pc' := 61) (cr_add hok fb.1.1 e9 l23 _ _) dX6_readComparison_58 rfl rfl ck_7 rfl ml_X6_91 im_X6_addStep sl_X6_addStep in_X6 co_X6_addStep pd_X6_addStep rfl (by omega) (by decide) ⟨by decide, by decide⟩ (Nat.le_of_ble_eq_true rfl) ?_
          rintro _ _ ⟨rfl, rfl⟩ -
          refine g_iload_n (pc' := 62) dX6_readComparison_61 rfl rfl ?_
          refine g_zret dX6_readComparison_62 rfl (by rfl) (by decide) (by decide) ?_
          show PB b n i true p s (pc b (u + 1) 0 A o p) h _ _
          rw [pc_0, bnd_t e2]
          rw [cif_t cm]
          rw [bnd_f e3]
          exact PB.no e3 ((FB.tr (ST.at (q := (px b 1000 3 A o p).2.1 + 1) hst2) fb (by omega)).as (by omega) l23 e9)
      ·
        refine g_iload_n (pc' := 28) dX6_readComparison_27 rfl rfl ?_
        refine g_bipushN (n := 61) (pc' := 30) dX6_readComparison_28 rfl (by decide) ?_
        refine g_icmp_eq (tgt := 39) (pc' := 33) dX6_readComparison_30 rfl (by decide) (fun c30 => ?_) (fun c30 => ?_)
        ·
          have cm : isCm (b (px b 1000 3 A o p).2.1) := by
            first
            | exact Or.inl ((hrc_eq hb (by decide) (by decide)).mp c18)
            | exact Or.inr (Or.inl ((hrc_eq hb (by decide) (by decide)).mp c24))
            | exact Or.inr (Or.inr ((hrc_eq hb (by decide) (by decide)).mp c30))
          have hlt := hb.lt (isCm_ne cm)
          rw [hrc_t hlt]
          have pr := px_ok hb 1000 3 A o ((px b 1000 3 A o p).2.1 + 1) (by omega)
          have pr1 := pr.1
          refine g_aload_n (pc' := 40) dX6_readComparison_39 rfl rfl ?_
          refine g_dup (pc' := 41) dX6_readComparison_40 rfl rfl ?_
          refine g_getIv (v := nI ((px b 1000 3 A o p).2.1)) (pc' := 44) (k := 8) dX6_readComparison_41 rfl rfl ck_7 (by decide) fl_X6_43 rfl (hst2.2.2.1) ?_
          refine g_iconstN (n := 1) (pc' := 45) dX6_readComparison_44 rfl ?_
          refine g_iaddN (pc' := 46) dX6_readComparison_45 rfl ?_
          refine g_putI (pc' := 49) (k := 8) dX6_readComparison_46 rfl rfl ck_7 (by decide) fl_X6_43 rfl rfl rfl rfl ?_
          refine g_aload_n (pc' := 50) dX6_readComparison_49 rfl rfl ?_
          refine g_iload_n (pc' := 51) dX6_readComparison_50 rfl rfl ?_
          refine g_invV (pc' := 54) (cr_expr hok hb A ho (by omega) (by omega) (ST.re (ST.at (q := (px b 1000 3 A o p).2.1 + 1) hst2) s2)) dX6_readComparison_51 rfl rfl ck_7 rfl ml_X6_79 im_X6_readExpression sl_X6_readExpression in_X6 co_X6_readExpression pd_X6_readExpression rfl (by omega) (by decide) ⟨by decide, by decide⟩ (Nat.le_of_ble_eq_true rfl) ?_
          rintro _ h3 ⟨rfl, q1, q2⟩ -
          rcases Classical.em ((px b 1000 3 A o ((px b 1000 3 A o p).2.1 + 1)).1 = 0) with e3 | e3
          ·
            obtain ⟨s3, hst3, l13, l23, sc3⟩ := q1 e3
            rw [show bi ((px b 1000 3 A o ((px b 1000 3 A o p).2.1 + 1)).1 = 0) = nI 1 from bi_t e3]
            refine g_istore_n (pc' := 55) dX6_readComparison_54 rfl (by decide) rfl ?_
            try simp only [List.set]
            refine g_aload_n (pc' := 56) dX6_readComparison_55 rfl rfl ?_
            refine g_iload_n (pc' := 57) dX6_readComparison_56 rfl rfl ?_
            refine g_iconstN (n := 0) (pc' := 58) dX6_readComparison_57 rfl ?_
            refine g_invV (pc' := 61) (cr_add hok hst3.1.1 hst3.2.2.2 (by omega) _ _) dX6_readComparison_58 rfl rfl ck_7 rfl ml_X6_91 im_X6_addStep sl_X6_addStep in_X6 co_X6_addStep pd_X6_addStep rfl (by omega) (by decide) ⟨by decide, by decide⟩ (Nat.le_of_ble_eq_true rfl) ?_
            rintro _ _ ⟨rfl, rfl⟩ -
            refine g_iload_n (pc' := 62) dX6_readComparison_61 rfl rfl ?_
            refine g_zret dX6_readComparison_62 rfl (by rfl) (by decide) (by decide) ?_
            show PB b n i true p s (pc b (u + 1) 0 A o p) h _ _
            rw [pc_0, bnd_t e2]
            rw [cif_t cm]
            rw [bnd_t e3]
            exact PB.ok rfl ⟨s3 + 1, ST.as (c := nI (b (px b 1000 3 A o p).2.1)) (a := nI 0) (ST.tr (ST.at (q := (px b 1000 3 A o p).2.1 + 1) hst2) hst3 (by omega)) (by omega) (by omega), by omega, by show s3 + 1 + p ≤ s + (px b 1000 3 A o ((px b 1000 3 A o p).2.1 + 1)).2.1; omega, SC.asC (SC.kt (h := wI h2 (6, i) 8 (nI ((px b 1000 3 A o p).2.1 + 1))) sc2 hst3.2.1 (Nat.le_refl s2)) sc3 cm (by omega)⟩
          ·
            have fb := q2 e3
            obtain ⟨s3, l13, l23, e9⟩ := fb.2.2.1
            rw [show bi ((px b 1000 3 A o ((px b 1000 3 A o p).2.1 + 1)).1 = 0) = nI 0 from bi_f e3]
            refine g_istore_n (pc' := 55) dX6_readComparison_54 rfl (by decide) rfl ?_
            try simp only [List.set]
            refine g_aload_n (pc' := 56) dX6_readComparison_55 rfl rfl ?_
            refine g_iload_n (pc' := 57) dX6_readComparison_56 rfl rfl ?_
            refine g_iconstN (n := 0) (pc' := 58) dX6_readComparison_57 rfl ?_
            refine g_invV (pc' := 61) (cr_add hok fb.1.1 e9 l23 _ _) dX6_readComparison_58 rfl rfl ck_7 rfl ml_X6_91 im_X6_addStep sl_X6_addStep in_X6 co_X6_addStep pd_X6_addStep rfl (by omega) (by decide) ⟨by decide, by decide⟩ (Nat.le_of_ble_eq_true rfl) ?_
            rintro _ _ ⟨rfl, rfl⟩ -
            refine g_iload_n (pc' := 62) dX6_readComparison_61 rfl rfl ?_
            refine g_zret dX6_readComparison_62 rfl (by rfl) (by decide) (by decide) ?_
            show PB b n i true p s (pc b (u + 1) 0 A o p) h _ _
            rw [pc_0, bnd_t e2]
            rw [cif_t cm]
            rw [bnd_f e3]
            exact PB.no e3 ((FB.tr (ST.at (q := (px b 1000 3 A o p).2.1 + 1) hst2) fb (by omega)).as (by omega) l23 e9)
        ·
          have ncm : ¬ isCm (b (px b 1000 3 A o p).2.1) := fun z => by rcases z with z | z | z <;> first | exact c18 ((hrc_eq hb (by decide) (by decide)).mpr z) | exact c24 ((hrc_eq hb (by decide) (by decide)).mpr z) | exact c30 ((hrc_eq hb (by decide) (by decide)).mpr z)
          refine g_aload_n (pc' := 34) dX6_readComparison_33 rfl rfl ?_
          refine g_iconstN (n := 1) (pc' := 35) dX6_readComparison_34 rfl ?_
          refine g_invV (pc' := 38) (cr_failed hok hst2.2.2.1 1) dX6_readComparison_35 rfl rfl ck_7 rfl ml_X6_70 im_X6_failed sl_X6_failed in_X6 co_X6_failed pd_X6_failed rfl (by omega) (by decide) ⟨by decide, by decide⟩ (Nat.le_of_ble_eq_true rfl) ?_
          rintro _ _ ⟨rfl, rfl⟩ -
          refine g_zret dX6_readComparison_38 rfl (by rfl) (by decide) (by decide) ?_
          show PB b n i true p s (pc b (u + 1) 0 A o p) h _ _
          rw [pc_0, bnd_t e2]
          rw [cif_f ncm]
          exact PB.no (by show ¬ (1 : Nat) = 0; decide) (FB.fa hst2 (by omega) (by omega))
  ·
    have fb := q2 e2
    obtain ⟨s2, l12, l22, e9⟩ := fb.2.2.1
    rw [show bi ((px b 1000 3 A o p).1 = 0) = nI 0 from bi_f e2]
    refine g_if_neN (tgt := 10) (pc' := 8) dX6_readComparison_5 rfl (by decide) (by decide) (fun q => False.elim (by revert q; decide)) (fun _ => ?_)
    refine g_iconstN (n := 0) (pc' := 9) dX6_readComparison_8 rfl ?_
    refine g_zret dX6_readComparison_9 rfl (by rfl) (by decide) (by decide) ?_
    show PB b n i true p s (pc b (u + 1) 0 A o p) h _ _
    rw [pc_0, bnd_f e2]
    exact PB.no e2 fb
set_option maxRecDepth 4000 in
theorem piece_step {E : En} (hok : EOK E) {b : Nat → Nat} {n i u : Nat} (hb : HB b n) (hI : CC1 E m_X6_readInBrackets 7 b n i u 2) (hC : CC1 E m_X6_readComparison 7 b n i u 0) (hP : CC1 E m_X6_readPiece 8 b n i u 1) : CC1 E m_X6_readPiece 8 b n i (u + 1) 1 := by
  intro A o p s h ho hsp hp hst hne
  have hn := hb.1
  refine Call.enter hok (by decide) (Nat.le_of_ble_eq_true rfl) ?_
  show G E m_X6_readPiece (4 * (6 - o) + 8) 0 0 _ h 0 [some (vR (6, i)), some (vI (nI o)), none, none] [] h 0 0
  refine g_aload_n (pc' := 1) dX6_readPiece_0 rfl rfl ?_
  refine g_invV (pc' := 4) (cr_here hok hb hst (by omega)) dX6_readPiece_1 rfl rfl ck_7 rfl ml_X6_66 im_X6_here sl_X6_here in_X6 co_X6_here pd_X6_here rfl (by omega) (by decide) ⟨by decide, by decide⟩ (Nat.le_of_ble_eq_true rfl) ?_
  rintro _ _ ⟨rfl, rfl⟩ -
  refine g_istore_n (pc' := 5) dX6_readPiece_4 rfl (by decide) rfl ?_
  try simp only [List.set]
  refine g_iload_n (pc' := 6) dX6_readPiece_5 rfl rfl ?_
  refine g_bipushN (n := 40) (pc' := 8) dX6_readPiece_6 rfl (by decide) ?_
  refine g_icmp_ne (tgt := 17) (pc' := 11) dX6_readPiece_8 rfl (by decide) (fun c8 => ?_) (fun c8 => ?_)
  ·
    have n40 : ¬ b p = 40 := fun z => c8 ((hrc_eq hb (by decide) (by decide)).mpr z)
    refine g_iload_n (pc' := 18) dX6_readPiece_17 rfl rfl ?_
    refine g_bipushN (n := 33) (pc' := 20) dX6_readPiece_18 rfl (by decide) ?_
    refine g_icmp_eq (tgt := 29) (pc' := 23) dX6_readPiece_20 rfl (by decide) (fun c20 => ?_) (fun c20 => ?_)
    ·
      have e33 : b p = 33 := (hrc_eq hb (by decide) (by decide)).mp c20
      refine g_iload_n (pc' := 30) dX6_readPiece_29 rfl rfl ?_
      refine g_bipushN (n := 6) (pc' := 32) dX6_readPiece_30 rfl (by decide) ?_
      refine g_icmp_ltN (tgt := 41) (pc' := 35) dX6_readPiece_32 rfl (by decide) (by omega) (by omega) (fun c32 => ?_) (fun c32 => ?_)
      ·
        have hlt := hb.lt (p := p) (by omega)
        have h9 : (pc b u 1 A (o + 1) (p + 1)).1 ≠ 9 := by
          have q := hne
          rw [pc_1, cif_f n40, cif_t e33, cif_f (by omega)] at q
          exact bnd_9 q
        have pq := pc_ok hb u 1 A (o + 1) (p + 1) (by omega)
        have pq1 := pq.1
        refine g_aload_n (pc' := 42) dX6_readPiece_41 rfl rfl ?_
        refine g_dup (pc' := 43) dX6_readPiece_42 rfl rfl ?_
        refine g_getIv (v := nI (p)) (pc' := 46) (k := 8) dX6_readPiece_43 rfl rfl ck_7 (by decide) fl_X6_43 rfl (hst.2.2.1) ?_
        refine g_iconstN (n := 1) (pc' := 47) dX6_readPiece_46 rfl ?_
        refine g_iaddN (pc' := 48) dX6_readPiece_47 rfl ?_
        refine g_putI (pc' := 51) (k := 8) dX6_readPiece_48 rfl rfl ck_7 (by decide) fl_X6_43 rfl rfl rfl rfl ?_
        refine g_aload_n (pc' := 52) dX6_readPiece_51 rfl rfl ?_
        refine g_iload_n (pc' := 53) dX6_readPiece_52 rfl rfl ?_
        refine g_iconstN (n := 1) (pc' := 54) dX6_readPiece_53 rfl ?_
        refine g_iaddN (pc' := 55) dX6_readPiece_54 rfl ?_
        refine g_invV (pc' := 58) (hP A (o + 1) (p + 1) s _ (by omega) (by omega) (by omega) (ST.re (ST.at (q := p + 1) hst) s) h9) dX6_readPiece_55 rfl rfl ck_7 rfl ml_X6_99 im_X6_readPiece sl_X6_readPiece in_X6 co_X6_readPiece pd_X6_readPiece rfl (by omega) (by decide) ⟨by decide, by decide⟩ (Nat.le_of_ble_eq_true rfl) ?_
        rintro _ h2 ⟨rfl, q1, q2⟩ -
        rcases Classical.em ((pc b u 1 A (o + 1) (p + 1)).1 = 0) with e2 | e2
        ·
          obtain ⟨s2, hst2, l12, l22, sc2⟩ := q1 e2
          rw [show bi ((pc b u 1 A (o + 1) (p + 1)).1 = 0) = nI 1 from bi_t e2]
          refine g_istore_n (pc' := 59) dX6_readPiece_58 rfl (by decide) rfl ?_
          try simp only [List.set]
          refine g_aload_n (pc' := 60) dX6_readPiece_59 rfl rfl ?_
          refine g_bipushN (n := 33) (pc' := 62) dX6_readPiece_60 rfl (by decide) ?_
          refine g_iconstN (n := 0) (pc' := 63) dX6_readPiece_62 rfl ?_
          refine g_invV (pc' := 66) (cr_add hok hst2.1.1 hst2.2.2.2 (by omega) _ _) dX6_readPiece_63 rfl rfl ck_7 rfl ml_X6_91 im_X6_addStep sl_X6_addStep in_X6 co_X6_addStep pd_X6_addStep rfl (by omega) (by decide) ⟨by decide, by decide⟩ (Nat.le_of_ble_eq_true rfl) ?_
          rintro _ _ ⟨rfl, rfl⟩ -
          refine g_iload_n (pc' := 67) dX6_readPiece_66 rfl rfl ?_
          refine g_zret dX6_readPiece_67 rfl (by rfl) (by decide) (by decide) ?_
          show PB b n i true p s (pc b (u + 1) 1 A o p) h _ _
          rw [pc_1, cif_f n40, cif_t e33]
          rw [cif_f (by omega)]
          rw [bnd_t e2]
          exact PB.ok rfl ⟨s2 + 1, ST.as (c := nI 33) (a := nI 0) (ST.tr (ST.at (q := p + 1) hst) hst2 (by omega)) (by omega) (by omega), by omega, by show s2 + 1 + p ≤ s + (pc b u 1 A (o + 1) (p + 1)).2.1; omega, SC.asN sc2 (by omega)⟩
        ·
          have fb := q2 e2
          obtain ⟨s2, l12, l22, e9⟩ := fb.2.2.1
          rw [show bi ((pc b u 1 A (o + 1) (p + 1)).1 = 0) = nI 0 from bi_f e2]
          refine g_istore_n (pc' := 59) dX6_readPiece_58 rfl (by decide) rfl ?_
          try simp only [List.set]
          refine g_aload_n (pc' := 60) dX6_readPiece_59 rfl rfl ?_
          refine g_bipushN (n := 33) (pc' := 62) dX6_readPiece_60 rfl (by decide) ?_
          refine g_iconstN (n := 0) (pc' := 63) dX6_readPiece_62 rfl ?_
          refine g_invV (pc' := 66) (cr_add hok fb.1.1 e9 l22 _ _) dX6_readPiece_63 rfl rfl ck_7 rfl ml_X6_91 im_X6_addStep sl_X6_addStep in_X6 co_X6_addStep pd_X6_addStep rfl (by omega) (by decide) ⟨by decide, by decide⟩ (Nat.le_of_ble_eq_true rfl) ?_
          rintro _ _ ⟨rfl, rfl⟩ -
          refine g_iload_n (pc' := 67) dX6_readPiece_66 rfl rfl ?_
          refine g_zret dX6_readPiece_67 rfl (by rfl) (by decide) (by decide) ?_
          show PB b n i true p s (pc b (u + 1) 1 A o p) h _ _
          rw [pc_1, cif_f n40, cif_t e33]
          rw [cif_f (by omega)]
          rw [bnd_f e2]
          exact PB.no e2 ((FB.tr (ST.at (q := p + 1) hst) fb (by omega)).as (by omega) l22 e9)
      ·
        refine g_aload_n (pc' := 36) dX6_readPiece_35 rfl rfl ?_
        refine g_iconstN (n := 5) (pc' := 37) dX6_readPiece_36 rfl ?_
        refine g_invV (pc' := 40) (cr_failed hok hst.2.2.1 5) dX6_readPiece_37 rfl rfl ck_7 rfl ml_X6_70 im_X6_failed sl_X6_failed in_X6 co_X6_failed pd_X6_failed rfl (by omega) (by decide) ⟨by decide, by decide⟩ (Nat.le_of_ble_eq_true rfl) ?_
        rintro _ _ ⟨rfl, rfl⟩ -
        refine g_zret dX6_readPiece_40 rfl (by rfl) (by decide) (by decide) ?_
        show PB b n i true p s (pc b (u + 1) 1 A o p) h _ _
        rw [pc_1, cif_f n40, cif_t e33]
        rw [cif_t (by omega)]
        exact PB.no (by show ¬ (5 : Nat) = 0; decide) (FB.fa hst (Nat.le_refl s) (by omega))
    ·
      have n33 : ¬ b p = 33 := fun z => c20 ((hrc_eq hb (by decide) (by decide)).mpr z)
      have h9 : (pc b u 0 A o p).1 ≠ 9 := by
        have q := hne
        rw [pc_1, cif_f n40, cif_f n33] at q
        exact q
      refine g_aload_n (pc' := 24) dX6_readPiece_23 rfl rfl ?_
      refine g_iload_n (pc' := 25) dX6_readPiece_24 rfl rfl ?_
      refine g_invV (pc' := 28) (hC A o p s h ho hsp hp hst h9) dX6_readPiece_25 rfl rfl ck_7 rfl ml_X6_102 im_X6_readComparison sl_X6_readComparison in_X6 co_X6_readComparison pd_X6_readComparison rfl (by omega) (by decide) ⟨by decide, by decide⟩ (Nat.le_of_ble_eq_true rfl) ?_
      rintro _ h1 ⟨rfl, q1, q2⟩ -
      refine g_zret dX6_readPiece_28 rfl (nbB) (by decide) (by decide) ?_
      show PB b n i true p s (pc b (u + 1) 1 A o p) h _ _
      rw [pc_1, cif_f n40, cif_f n33]
      exact ⟨rfl, q1, q2⟩
  ·
    have e40 : b p = 40 := (hrc_eq hb (by decide) (by decide)).mp c8
    have h9 : (pc b u 2 A o p).1 ≠ 9 := by
      have q := hne
      rw [pc_1, cif_t e40] at q
      exact q
    refine g_aload_n (pc' := 12) dX6_readPiece_11 rfl rfl ?_
    refine g_iload_n (pc' := 13) dX6_readPiece_12 rfl rfl ?_
    refine g_invV (pc' := 16) (hI A o p s h ho hsp hp hst h9) dX6_readPiece_13 rfl rfl ck_7 rfl ml_X6_82 im_X6_readInBrackets sl_X6_readInBrackets in_X6 co_X6_readInBrackets pd_X6_readInBrackets rfl (by omega) (by decide) ⟨by decide, by decide⟩ (Nat.le_of_ble_eq_true rfl) ?_
    rintro _ h1 ⟨rfl, q1, q2⟩ -
    refine g_zret dX6_readPiece_16 rfl (nbB) (by decide) (by decide) ?_
    show PB b n i true p s (pc b (u + 1) 1 A o p) h _ _
    rw [pc_1, cif_t e40]
    exact ⟨rfl, q1, q2⟩
set_option maxRecDepth 4000 in
theorem inbr_step {E : En} (hok : EOK E) {b : Nat → Nat} {n i u : Nat} (hb : HB b n) (hD : CC1 E m_X6_readCondition 10 b n i u 3) : CC1 E m_X6_readInBrackets 7 b n i (u + 1) 2 := by
  intro A o p s h ho hsp hp hst hne
  have hn := hb.1
  refine Call.enter hok (by decide) (Nat.le_of_ble_eq_true rfl) ?_
  show G E m_X6_readInBrackets (4 * (6 - o) + 7) 0 0 _ h 0 [some (vR (6, i)), some (vI (nI o))] [] h 0 0
  refine g_aload_n (pc' := 1) dX6_readInBrackets_0 rfl rfl ?_
  refine g_invV (pc' := 4) (cr_here hok hb hst (by omega)) dX6_readInBrackets_1 rfl rfl ck_7 rfl ml_X6_66 im_X6_here sl_X6_here in_X6 co_X6_here pd_X6_here rfl (by omega) (by decide) ⟨by decide, by decide⟩ (Nat.le_of_ble_eq_true rfl) ?_
  rintro _ _ ⟨rfl, rfl⟩ -
  refine g_bipushN (n := 40) (pc' := 6) dX6_readInBrackets_4 rfl (by decide) ?_
  refine g_icmp_ne (tgt := 21) (pc' := 9) dX6_readInBrackets_6 rfl (by decide) (fun c6 => ?_) (fun c6 => ?_)
  ·
    have n40 : ¬ b p = 40 := fun z => c6 ((hrc_eq hb (by decide) (by decide)).mpr z)
    refine g_aload_n (pc' := 22) dX6_readInBrackets_21 rfl rfl ?_
    refine g_bipushN (n := 40) (pc' := 24) dX6_readInBrackets_22 rfl (by decide) ?_
    refine g_invV (pc' := 27) (cr_sign hok hb hst hp (c := 40) ⟨by decide, by decide⟩) dX6_readInBrackets_24 rfl rfl ck_7 rfl ml_X6_62 im_X6_readSign sl_X6_readSign in_X6 co_X6_readSign pd_X6_readSign rfl (by omega) (by decide) ⟨by decide, by decide⟩ (Nat.le_of_ble_eq_true rfl) ?_
    rintro _ hh24 ⟨rfl, e24⟩ -
    refine g_ifB_eq (tgt := 53) (pc' := 30) dX6_readInBrackets_27 rfl (by decide) (fun c27 => ?_) (fun c27 => ?_)
    ·
      rw [cif_f c27] at e24
      subst e24
      refine g_iconstN (n := 0) (pc' := 54) dX6_readInBrackets_53 rfl ?_
      refine g_zret dX6_readInBrackets_54 rfl (by rfl) (by decide) (by decide) ?_
      show PB b n i true p s (pc b (u + 1) 2 A o p) h _ _
      rw [pc_2, cif_f n40]
      exact PB.no (by show ¬ (1 : Nat) = 0; decide) (FB.fa hst (Nat.le_refl s) (by omega))
    · exact absurd c27 n40
  ·
    have e40 : b p = 40 := (hrc_eq hb (by decide) (by decide)).mp c6
    refine g_iload_n (pc' := 10) dX6_readInBrackets_9 rfl rfl ?_
    refine g_bipushN (n := 6) (pc' := 12) dX6_readInBrackets_10 rfl (by decide) ?_
    refine g_icmp_ltN (tgt := 21) (pc' := 15) dX6_readInBrackets_12 rfl (by decide) (by omega) (by omega) (fun c12 => ?_) (fun c12 => ?_)
    ·
      have hlt := hb.lt (p := p) (by omega)
      have h9 : (pc b u 3 A (o + 1) (p + 1)).1 ≠ 9 := by
        have q := hne
        rw [pc_2, cif_t e40, cif_f (by omega)] at q
        exact bnd_9 q
      have pq := pc_ok hb u 3 A (o + 1) (p + 1) (by omega)
      have pq1 := pq.1
      refine g_aload_n (pc' := 22) dX6_readInBrackets_21 rfl rfl ?_
      refine g_bipushN (n := 40) (pc' := 24) dX6_readInBrackets_22 rfl (by decide) ?_
      refine g_invV (pc' := 27) (cr_sign hok hb hst hp (c := 40) ⟨by decide, by decide⟩) dX6_readInBrackets_24 rfl rfl ck_7 rfl ml_X6_62 im_X6_readSign sl_X6_readSign in_X6 co_X6_readSign pd_X6_readSign rfl (by omega) (by decide) ⟨by decide, by decide⟩ (Nat.le_of_ble_eq_true rfl) ?_
      rintro _ hh24 ⟨rfl, e24⟩ -
      refine g_ifB_eq (tgt := 53) (pc' := 30) dX6_readInBrackets_27 rfl (by decide) (fun c27 => ?_) (fun c27 => ?_)
      · exact absurd e40 c27
      ·
        rw [cif_t c27] at e24
        subst e24
        refine g_aload_n (pc' := 31) dX6_readInBrackets_30 rfl rfl ?_
        refine g_iload_n (pc' := 32) dX6_readInBrackets_31 rfl rfl ?_
        refine g_iconstN (n := 1) (pc' := 33) dX6_readInBrackets_32 rfl ?_
        refine g_iaddN (pc' := 34) dX6_readInBrackets_33 rfl ?_
        refine g_invV (pc' := 37) (hD A (o + 1) (p + 1) s _ (by omega) (by omega) (by omega) (ST.re (ST.at (q := p + 1) hst) s) h9) dX6_readInBrackets_34 rfl rfl ck_7 rfl ml_X6_85 im_X6_readCondition sl_X6_readCondition in_X6 co_X6_readCondition pd_X6_readCondition rfl (by omega) (by decide) ⟨by decide, by decide⟩ (Nat.le_of_ble_eq_true rfl) ?_
        rintro _ h2 ⟨rfl, q1, q2⟩ -
        rcases Classical.em ((pc b u 3 A (o + 1) (p + 1)).1 = 0) with e2 | e2
        ·
          obtain ⟨s2, hst2, l12, l22, sc2⟩ := q1 e2
          rw [show bi ((pc b u 3 A (o + 1) (p + 1)).1 = 0) = nI 1 from bi_t e2]
          refine g_if_eqN (tgt := 53) (pc' := 40) dX6_readInBrackets_37 rfl (by decide) (by decide) (fun q => False.elim (by revert q; decide)) (fun _ => ?_)
          refine g_aload_n (pc' := 41) dX6_readInBrackets_40 rfl rfl ?_
          refine g_bipushN (n := 41) (pc' := 43) dX6_readInBrackets_41 rfl (by decide) ?_
          refine g_invV (pc' := 46) (cr_sign hok hb hst2 pq1 (c := 41) ⟨by decide, by decide⟩) dX6_readInBrackets_43 rfl rfl ck_7 rfl ml_X6_62 im_X6_readSign sl_X6_readSign in_X6 co_X6_readSign pd_X6_readSign rfl (by omega) (by decide) ⟨by decide, by decide⟩ (Nat.le_of_ble_eq_true rfl) ?_
          rintro _ hh43 ⟨rfl, e43⟩ -
          refine g_ifB_eq (tgt := 53) (pc' := 49) dX6_readInBrackets_46 rfl (by decide) (fun c46 => ?_) (fun c46 => ?_)
          ·
            rw [cif_f c46] at e43
            subst e43
            refine g_iconstN (n := 0) (pc' := 54) dX6_readInBrackets_53 rfl ?_
            refine g_zret dX6_readInBrackets_54 rfl (by rfl) (by decide) (by decide) ?_
            show PB b n i true p s (pc b (u + 1) 2 A o p) h _ _
            rw [pc_2, cif_t e40, cif_f (by omega)]
            rw [bnd_t e2]
            rw [cif_f c46]
            exact PB.no (by show ¬ (1 : Nat) = 0; decide) (FB.fa (ST.tr (ST.at (q := p + 1) hst) hst2 (Nat.le_refl s)) (by omega) (by omega))
          ·
            rw [cif_t c46] at e43
            subst e43
            refine g_iconstN (n := 1) (pc' := 50) dX6_readInBrackets_49 rfl ?_
            refine g_goto (tgt := 54) dX6_readInBrackets_50 (by decide) ?_
            refine g_zret dX6_readInBrackets_54 rfl (by rfl) (by decide) (by decide) ?_
            show PB b n i true p s (pc b (u + 1) 2 A o p) h _ _
            rw [pc_2, cif_t e40, cif_f (by omega)]
            rw [bnd_t e2]
            rw [cif_t c46]
            exact PB.ok rfl ⟨s2, (ST.tr (ST.at (q := p + 1) hst) hst2 (Nat.le_refl s)).at, l12, by show s2 + p ≤ s + (_ + 1); omega, sc2⟩
        ·
          have fb := q2 e2
          obtain ⟨s2, l12, l22, e9⟩ := fb.2.2.1
          rw [show bi ((pc b u 3 A (o + 1) (p + 1)).1 = 0) = nI 0 from bi_f e2]
          refine g_if_eqN (tgt := 53) (pc' := 40) dX6_readInBrackets_37 rfl (by decide) (by decide) (fun _ => ?_) (fun q => False.elim (by revert q; decide))
          refine g_iconstN (n := 0) (pc' := 54) dX6_readInBrackets_53 rfl ?_
          refine g_zret dX6_readInBrackets_54 rfl (by rfl) (by decide) (by decide) ?_
          show PB b n i true p s (pc b (u + 1) 2 A o p) h _ _
          rw [pc_2, cif_t e40, cif_f (by omega)]
          rw [bnd_f e2]
          exact PB.no e2 (FB.tr (ST.at (q := p + 1) hst) fb (Nat.le_refl s))
    ·
      refine g_aload_n (pc' := 16) dX6_readInBrackets_15 rfl rfl ?_
      refine g_iconstN (n := 5) (pc' := 17) dX6_readInBrackets_16 rfl ?_
      refine g_invV (pc' := 20) (cr_failed hok hst.2.2.1 5) dX6_readInBrackets_17 rfl rfl ck_7 rfl ml_X6_70 im_X6_failed sl_X6_failed in_X6 co_X6_failed pd_X6_failed rfl (by omega) (by decide) ⟨by decide, by decide⟩ (Nat.le_of_ble_eq_true rfl) ?_
      rintro _ _ ⟨rfl, rfl⟩ -
      refine g_zret dX6_readInBrackets_20 rfl (by rfl) (by decide) (by decide) ?_
      show PB b n i true p s (pc b (u + 1) 2 A o p) h _ _
      rw [pc_2, cif_t e40, cif_t (by omega)]
      exact PB.no (by show ¬ (5 : Nat) = 0; decide) (FB.fa hst (Nat.le_refl s) (by omega))
set_option maxRecDepth 4000 in
theorem cond_step {E : En} (hok : EOK E) {b : Nat → Nat} {n i u : Nat} (hb : HB b n) (hF : CC1 E m_X6_readPart 9 b n i u 4) (hL : LC1 E m_X6_readCondition 10 b n i u 5) : CC1 E m_X6_readCondition 10 b n i (u + 1) 3 := by
  intro A o p s h ho hsp hp hst hne
  have hn := hb.1
  have h9 : (pc b u 4 A o p).1 ≠ 9 := bnd_9 hne
  have pq := pc_ok hb u 4 A o p hp
  have pq1 := pq.1
  refine Call.enter hok (by decide) (Nat.le_of_ble_eq_true rfl) ?_
  show G E m_X6_readCondition (4 * (6 - o) + 10) 0 0 _ h 0 [some (vR (6, i)), some (vI (nI o)), none, none, none] [] h 0 0
  refine g_aload_n (pc' := 1) dX6_readCondition_0 rfl rfl ?_
  refine g_iload_n (pc' := 2) dX6_readCondition_1 rfl rfl ?_
  refine g_invV (pc' := 5) (hF A o p s h ho hsp hp hst h9) dX6_readCondition_2 rfl rfl ck_7 rfl ml_X6_88 im_X6_readPart sl_X6_readPart in_X6 co_X6_readPart pd_X6_readPart rfl (by omega) (by decide) ⟨by decide, by decide⟩ (Nat.le_of_ble_eq_true rfl) ?_
  rintro _ h2 ⟨rfl, q1, q2⟩ -
  rcases Classical.em ((pc b u 4 A o p).1 = 0) with e2 | e2
  ·
    obtain ⟨s2, hst2, l12, l22, sc2⟩ := q1 e2
    rw [show bi ((pc b u 4 A o p).1 = 0) = nI 1 from bi_t e2]
    refine g_istore_n (pc' := 6) dX6_readCondition_5 rfl (by decide) rfl ?_
    try simp only [List.set]
    refine g_iconstN (n := 0) (pc' := 7) dX6_readCondition_6 rfl ?_
    refine g_istore_n (pc' := 8) dX6_readCondition_7 rfl (by decide) rfl ?_
    try simp only [List.set]
    have eq : pc b (u + 1) 3 A o p = pc b u 5 (pc b u 4 A o p).2.2 o (pc b u 4 A o p).2.1 := bnd_t e2
    refine hL (pc b u 4 A o p).2.2 o p s (pc b u 4 A o p).2.1 s2 0 h h2 h _ ho l12 (by omega) l22 pq1 (Nat.zero_le _) hst2 sc2 (by rw [← eq]; exact hne) (fun v h3 q => ?_)
    rw [← eq] at q
    exact q
  ·
    have fb := q2 e2
    obtain ⟨s2, l12, l22, e9⟩ := fb.2.2.1
    rw [show bi ((pc b u 4 A o p).1 = 0) = nI 0 from bi_f e2]
    refine g_istore_n (pc' := 6) dX6_readCondition_5 rfl (by decide) rfl ?_
    try simp only [List.set]
    refine g_iconstN (n := 0) (pc' := 7) dX6_readCondition_6 rfl ?_
    refine g_istore_n (pc' := 8) dX6_readCondition_7 rfl (by decide) rfl ?_
    try simp only [List.set]
    refine g_iload_n (pc' := 9) dX6_readCondition_8 rfl rfl ?_
    refine g_sipushN (n := 200) (pc' := 12) dX6_readCondition_9 rfl (by decide) ?_
    refine g_icmp_geN (tgt := 69) (pc' := 15) dX6_readCondition_12 rfl (by decide) (by decide) (by decide) (fun q => False.elim (by revert q; decide)) (fun _ => ?_)
    refine g_iload_n (pc' := 16) dX6_readCondition_15 rfl rfl ?_
    refine g_if_eqN (tgt := 69) (pc' := 19) dX6_readCondition_16 rfl (by decide) (by decide) (fun _ => ?_) (fun q => False.elim (by revert q; decide))
    refine g_iload_n (pc' := 70) dX6_readCondition_69 rfl rfl ?_
    refine g_zret dX6_readCondition_70 rfl (by rfl) (by decide) (by decide) ?_
    show PB b n i true p s (pc b (u + 1) 3 A o p) h _ _
    rw [pc_3, bnd_f e2]
    exact PB.no e2 fb
set_option maxRecDepth 4000 in
theorem ct_step {E : En} (hok : EOK E) {b : Nat → Nat} {n i u : Nat} (hb : HB b n) (hF : CC1 E m_X6_readPart 9 b n i u 4) (hL : LC1 E m_X6_readCondition 10 b n i u 5) : LC1 E m_X6_readCondition 10 b n i (u + 1) 5 := by
  intro A o p0 s0 p s kk h h1 h0 Q ho hs0 hsp hs1 hp hkk hst sc hne hQ
  have hn := hb.1
  refine g_iload_n (pc' := 9) dX6_readCondition_8 rfl rfl ?_
  refine g_sipushN (n := 200) (pc' := 12) dX6_readCondition_9 rfl (by decide) ?_
  refine g_icmp_geN (tgt := 69) (pc' := 15) dX6_readCondition_12 rfl (by decide) (by omega) (by omega) (fun c12 => ?_) (fun c12 => ?_)
  ·
    refine g_iload_n (pc' := 70) dX6_readCondition_69 rfl rfl ?_
    refine g_zret dX6_readCondition_70 rfl (by rfl) (by decide) (by decide) ?_
    refine hQ _ _ ?_
    have nt : ¬ b p = 124 := by have := hb.2.2 p (by omega); omega
    rw [pc_5, cif_f nt]
    exact PB.ok rfl ⟨s, hst, hs0, hs1, sc⟩
  ·
    refine g_iload_n (pc' := 16) dX6_readCondition_15 rfl rfl ?_
    refine g_if_eqN (tgt := 69) (pc' := 19) dX6_readCondition_16 rfl (by decide) (by decide) (fun q => False.elim (by revert q; decide)) (fun _ => ?_)
    refine g_aload_n (pc' := 20) dX6_readCondition_19 rfl rfl ?_
    refine g_invV (pc' := 23) (cr_here hok hb hst (by omega)) dX6_readCondition_20 rfl rfl ck_7 rfl ml_X6_66 im_X6_here sl_X6_here in_X6 co_X6_here pd_X6_here rfl (by omega) (by decide) ⟨by decide, by decide⟩ (Nat.le_of_ble_eq_true rfl) ?_
    rintro _ _ ⟨rfl, rfl⟩ -
    refine g_bipushN (n := 124) (pc' := 25) dX6_readCondition_23 rfl (by decide) ?_
    refine g_icmp_ne (tgt := 69) (pc' := 28) dX6_readCondition_25 rfl (by decide) (fun c25 => ?_) (fun c25 => ?_)
    ·
      refine g_iload_n (pc' := 70) dX6_readCondition_69 rfl rfl ?_
      refine g_zret dX6_readCondition_70 rfl (by rfl) (by decide) (by decide) ?_
      refine hQ _ _ ?_
      have nt : ¬ b p = 124 := fun z => c25 ((hrc_eq hb (by decide) (by decide)).mpr z)
      rw [pc_5, cif_f nt]
      exact PB.ok rfl ⟨s, hst, hs0, hs1, sc⟩
    ·
      have tm : b p = 124 := (hrc_eq hb (by decide) (by decide)).mp c25
      have hlt := hb.lt (p := p) (by omega)
      have h9 : (pc b u 4 A o (p + 1)).1 ≠ 9 := by
        have q := hne
        rw [pc_5, cif_t tm] at q
        exact bnd_9 q
      have pq := pc_ok hb u 4 A o (p + 1) (by omega)
      have pq1 := pq.1
      have pr : (pc b u 4 A o (p + 1)).1 = 0 → p + 1 ≤ (pc b u 4 A o (p + 1)).2.1 := fun e => (pq.2.2 e).1
      have hstA := ST.as (c := nI 124) (a := nI 0) (ST.at (q := p + 1) hst) (show s0 ≤ s by omega) (show s < 200 by omega)
      refine g_aload_n (pc' := 29) dX6_readCondition_28 rfl rfl ?_
      refine g_dup (pc' := 30) dX6_readCondition_29 rfl rfl ?_
      refine g_getIv (v := nI (p)) (pc' := 33) (k := 8) dX6_readCondition_30 rfl rfl ck_7 (by decide) fl_X6_43 rfl (hst.2.2.1) ?_
      refine g_iconstN (n := 1) (pc' := 34) dX6_readCondition_33 rfl ?_
      refine g_iaddN (pc' := 35) dX6_readCondition_34 rfl ?_
      refine g_putI (pc' := 38) (k := 8) dX6_readCondition_35 rfl rfl ck_7 (by decide) fl_X6_43 rfl rfl rfl rfl ?_
      refine g_aload_n (pc' := 39) dX6_readCondition_38 rfl rfl ?_
      refine g_getIv (v := nI (s)) (pc' := 42) (k := 9) dX6_readCondition_39 rfl rfl ck_7 (by decide) fl_X6_46 rfl ((ST.at (q := p + 1) hst).2.2.2) ?_
      refine g_istore (pc' := 44) dX6_readCondition_42 rfl (by decide) rfl ?_
      try simp only [List.set]
      refine g_aload_n (pc' := 45) dX6_readCondition_44 rfl rfl ?_
      refine g_bipushN (n := 124) (pc' := 47) dX6_readCondition_45 rfl (by decide) ?_
      refine g_iconstN (n := 0) (pc' := 48) dX6_readCondition_47 rfl ?_
      refine g_invV (pc' := 51) (cr_add hok (ST.at (q := p + 1) hst).1.1 (ST.at (q := p + 1) hst).2.2.2 (by omega) _ _) dX6_readCondition_48 rfl rfl ck_7 rfl ml_X6_91 im_X6_addStep sl_X6_addStep in_X6 co_X6_addStep pd_X6_addStep rfl (by omega) (by decide) ⟨by decide, by decide⟩ (Nat.le_of_ble_eq_true rfl) ?_
      rintro _ _ ⟨rfl, rfl⟩ -
      refine g_aload_n (pc' := 52) dX6_readCondition_51 rfl rfl ?_
      refine g_iload_n (pc' := 53) dX6_readCondition_52 rfl rfl ?_
      refine g_invV (pc' := 56) (hF A o (p + 1) (s + 1) _ ho (by omega) (by omega) (ST.re hstA (s + 1)) h9) dX6_readCondition_53 rfl rfl ck_7 rfl ml_X6_88 im_X6_readPart sl_X6_readPart in_X6 co_X6_readPart pd_X6_readPart rfl (by omega) (by decide) ⟨by decide, by decide⟩ (Nat.le_of_ble_eq_true rfl) ?_
      rintro _ h2 ⟨rfl, q1, q2⟩ -
      rcases Classical.em ((pc b u 4 A o (p + 1)).1 = 0) with e2 | e2
      ·
        obtain ⟨s2, hst2, l12, l22, sc2⟩ := q1 e2
        rw [show bi ((pc b u 4 A o (p + 1)).1 = 0) = nI 1 from bi_t e2]
        refine g_istore_n (pc' := 57) dX6_readCondition_56 rfl (by decide) rfl ?_
        try simp only [List.set]
        refine g_aload_n (pc' := 58) dX6_readCondition_57 rfl rfl ?_
        refine g_iload (pc' := 60) dX6_readCondition_58 rfl rfl ?_
        refine g_invV (pc' := 63) (cr_end hok (j := s) hst2.1.1 (by omega)) dX6_readCondition_60 rfl rfl ck_7 rfl ml_X6_95 im_X6_endJump sl_X6_endJump in_X6 co_X6_endJump pd_X6_endJump rfl (by omega) (by decide) ⟨by decide, by decide⟩ (Nat.le_of_ble_eq_true rfl) ?_
        rintro _ _ ⟨rfl, rfl⟩ -
        refine g_iincN (k := 1) (pc' := 66) dX6_readCondition_63 rfl rfl (by decide) rfl ?_
        try simp only [List.set]
        refine g_goto (tgt := 8) dX6_readCondition_66 (by decide) ?_
        refine G.drop 4 ?_
        simp only [List.set]
        have eq : pc b (u + 1) 5 A o p = pc b u 5 (fOr A (pc b u 4 A o (p + 1)).2.2) o (pc b u 4 A o (p + 1)).2.1 := by rw [pc_5, cif_t tm, bnd_t e2]
        have sc3 := SC.ejA (g := 124) (h := h2) (x := h2.1 (6, i) 9) (by decide) (SC.kt (h := (asH i s (nI 124) (nI 0) (wI h1 (6, i) 8 (nI (p + 1))))) (SC.as (h := wI h1 (6, i) 8 (nI (p + 1))) (c := nI 124) (a := nI 0) sc (Nat.le_refl s)) hst2.2.1 (by omega)) sc2 ((hst2.2.1.2.2.1 s (by omega)).1.trans (as_c (by omega)).1) hst2.2.2.2
        rw [if_neg (by decide)] at sc3
        exact hL (fOr A (pc b u 4 A o (p + 1)).2.2) o p0 s0 (pc b u 4 A o (p + 1)).2.1 s2 (kk + 1) h _ h0 Q ho (by omega) (by omega) (by omega) pq1 (by omega) (ST.ej (ST.tr hstA hst2 (by omega)) (by omega)) sc3 (by rw [← eq]; exact hne) (fun v h3 q => hQ v h3 (by rw [eq]; exact q))
      ·
        have fb := q2 e2
        obtain ⟨s2, l12, l22, e9⟩ := fb.2.2.1
        rw [show bi ((pc b u 4 A o (p + 1)).1 = 0) = nI 0 from bi_f e2]
        refine g_istore_n (pc' := 57) dX6_readCondition_56 rfl (by decide) rfl ?_
        try simp only [List.set]
        refine g_aload_n (pc' := 58) dX6_readCondition_57 rfl rfl ?_
        refine g_iload (pc' := 60) dX6_readCondition_58 rfl rfl ?_
        refine g_invV (pc' := 63) (cr_end hok (j := s) fb.1.1 (by omega)) dX6_readCondition_60 rfl rfl ck_7 rfl ml_X6_95 im_X6_endJump sl_X6_endJump in_X6 co_X6_endJump pd_X6_endJump rfl (by omega) (by decide) ⟨by decide, by decide⟩ (Nat.le_of_ble_eq_true rfl) ?_
        rintro _ _ ⟨rfl, rfl⟩ -
        refine g_iincN (k := 1) (pc' := 66) dX6_readCondition_63 rfl rfl (by decide) rfl ?_
        try simp only [List.set]
        refine g_goto (tgt := 8) dX6_readCondition_66 (by decide) ?_
        refine G.drop 4 ?_
        simp only [List.set]
        refine g_iload_n (pc' := 9) dX6_readCondition_8 rfl rfl ?_
        refine g_sipushN (n := 200) (pc' := 12) dX6_readCondition_9 rfl (by decide) ?_
        refine g_icmp_geN (tgt := 69) (pc' := 15) dX6_readCondition_12 rfl (by decide) (by omega) (by omega) (fun c12 => ?_) (fun c12 => ?_)
        ·
          refine g_iload_n (pc' := 70) dX6_readCondition_69 rfl rfl ?_
          refine g_zret dX6_readCondition_70 rfl (by rfl) (by decide) (by decide) ?_
          refine hQ _ _ ?_
          rw [pc_5, cif_t tm, bnd_f e2]
          exact PB.no e2 ((FB.tr hstA fb (by omega)).ej (by omega))
        ·
          refine g_iload_n (pc' := 16) dX6_readCondition_15 rfl rfl ?_
          refine g_if_eqN (tgt := 69) (pc' := 19) dX6_readCondition_16 rfl (by decide) (by decide) (fun _ => ?_) (fun q => False.elim (by revert q; decide))
          refine g_iload_n (pc' := 70) dX6_readCondition_69 rfl rfl ?_
          refine g_zret dX6_readCondition_70 rfl (by rfl) (by decide) (by decide) ?_
          refine hQ _ _ ?_
          rw [pc_5, cif_t tm, bnd_f e2]
          exact PB.no e2 ((FB.tr hstA fb (by omega)).ej (by omega))
set_option maxRecDepth 4000 in
theorem part_step {E : En} (hok : EOK E) {b : Nat → Nat} {n i u : Nat} (hb : HB b n) (hF : CC1 E m_X6_readPiece 8 b n i u 1) (hL : LC1 E m_X6_readPart 9 b n i u 6) : CC1 E m_X6_readPart 9 b n i (u + 1) 4 := by
  intro A o p s h ho hsp hp hst hne
  have hn := hb.1
  have h9 : (pc b u 1 A o p).1 ≠ 9 := bnd_9 hne
  have pq := pc_ok hb u 1 A o p hp
  have pq1 := pq.1
  refine Call.enter hok (by decide) (Nat.le_of_ble_eq_true rfl) ?_
  show G E m_X6_readPart (4 * (6 - o) + 9) 0 0 _ h 0 [some (vR (6, i)), some (vI (nI o)), none, none, none] [] h 0 0
  refine g_aload_n (pc' := 1) dX6_readPart_0 rfl rfl ?_
  refine g_iload_n (pc' := 2) dX6_readPart_1 rfl rfl ?_
  refine g_invV (pc' := 5) (hF A o p s h ho hsp hp hst h9) dX6_readPart_2 rfl rfl ck_7 rfl ml_X6_99 im_X6_readPiece sl_X6_readPiece in_X6 co_X6_readPiece pd_X6_readPiece rfl (by omega) (by decide) ⟨by decide, by decide⟩ (Nat.le_of_ble_eq_true rfl) ?_
  rintro _ h2 ⟨rfl, q1, q2⟩ -
  rcases Classical.em ((pc b u 1 A o p).1 = 0) with e2 | e2
  ·
    obtain ⟨s2, hst2, l12, l22, sc2⟩ := q1 e2
    rw [show bi ((pc b u 1 A o p).1 = 0) = nI 1 from bi_t e2]
    refine g_istore_n (pc' := 6) dX6_readPart_5 rfl (by decide) rfl ?_
    try simp only [List.set]
    refine g_iconstN (n := 0) (pc' := 7) dX6_readPart_6 rfl ?_
    refine g_istore_n (pc' := 8) dX6_readPart_7 rfl (by decide) rfl ?_
    try simp only [List.set]
    have eq : pc b (u + 1) 4 A o p = pc b u 6 (pc b u 1 A o p).2.2 o (pc b u 1 A o p).2.1 := bnd_t e2
    refine hL (pc b u 1 A o p).2.2 o p s (pc b u 1 A o p).2.1 s2 0 h h2 h _ ho l12 (by omega) l22 pq1 (Nat.zero_le _) hst2 sc2 (by rw [← eq]; exact hne) (fun v h3 q => ?_)
    rw [← eq] at q
    exact q
  ·
    have fb := q2 e2
    obtain ⟨s2, l12, l22, e9⟩ := fb.2.2.1
    rw [show bi ((pc b u 1 A o p).1 = 0) = nI 0 from bi_f e2]
    refine g_istore_n (pc' := 6) dX6_readPart_5 rfl (by decide) rfl ?_
    try simp only [List.set]
    refine g_iconstN (n := 0) (pc' := 7) dX6_readPart_6 rfl ?_
    refine g_istore_n (pc' := 8) dX6_readPart_7 rfl (by decide) rfl ?_
    try simp only [List.set]
    refine g_iload_n (pc' := 9) dX6_readPart_8 rfl rfl ?_
    refine g_sipushN (n := 200) (pc' := 12) dX6_readPart_9 rfl (by decide) ?_
    refine g_icmp_geN (tgt := 69) (pc' := 15) dX6_readPart_12 rfl (by decide) (by decide) (by decide) (fun q => False.elim (by revert q; decide)) (fun _ => ?_)
    refine g_iload_n (pc' := 16) dX6_readPart_15 rfl rfl ?_
    refine g_if_eqN (tgt := 69) (pc' := 19) dX6_readPart_16 rfl (by decide) (by decide) (fun _ => ?_) (fun q => False.elim (by revert q; decide))
    refine g_iload_n (pc' := 70) dX6_readPart_69 rfl rfl ?_
    refine g_zret dX6_readPart_70 rfl (by rfl) (by decide) (by decide) ?_
    show PB b n i true p s (pc b (u + 1) 4 A o p) h _ _
    rw [pc_4, bnd_f e2]
    exact PB.no e2 fb
set_option maxRecDepth 4000 in
theorem pt_step {E : En} (hok : EOK E) {b : Nat → Nat} {n i u : Nat} (hb : HB b n) (hF : CC1 E m_X6_readPiece 8 b n i u 1) (hL : LC1 E m_X6_readPart 9 b n i u 6) : LC1 E m_X6_readPart 9 b n i (u + 1) 6 := by
  intro A o p0 s0 p s kk h h1 h0 Q ho hs0 hsp hs1 hp hkk hst sc hne hQ
  have hn := hb.1
  refine g_iload_n (pc' := 9) dX6_readPart_8 rfl rfl ?_
  refine g_sipushN (n := 200) (pc' := 12) dX6_readPart_9 rfl (by decide) ?_
  refine g_icmp_geN (tgt := 69) (pc' := 15) dX6_readPart_12 rfl (by decide) (by omega) (by omega) (fun c12 => ?_) (fun c12 => ?_)
  ·
    refine g_iload_n (pc' := 70) dX6_readPart_69 rfl rfl ?_
    refine g_zret dX6_readPart_70 rfl (by rfl) (by decide) (by decide) ?_
    refine hQ _ _ ?_
    have nt : ¬ b p = 38 := by have := hb.2.2 p (by omega); omega
    rw [pc_6, cif_f nt]
    exact PB.ok rfl ⟨s, hst, hs0, hs1, sc⟩
  ·
    refine g_iload_n (pc' := 16) dX6_readPart_15 rfl rfl ?_
    refine g_if_eqN (tgt := 69) (pc' := 19) dX6_readPart_16 rfl (by decide) (by decide) (fun q => False.elim (by revert q; decide)) (fun _ => ?_)
    refine g_aload_n (pc' := 20) dX6_readPart_19 rfl rfl ?_
    refine g_invV (pc' := 23) (cr_here hok hb hst (by omega)) dX6_readPart_20 rfl rfl ck_7 rfl ml_X6_66 im_X6_here sl_X6_here in_X6 co_X6_here pd_X6_here rfl (by omega) (by decide) ⟨by decide, by decide⟩ (Nat.le_of_ble_eq_true rfl) ?_
    rintro _ _ ⟨rfl, rfl⟩ -
    refine g_bipushN (n := 38) (pc' := 25) dX6_readPart_23 rfl (by decide) ?_
    refine g_icmp_ne (tgt := 69) (pc' := 28) dX6_readPart_25 rfl (by decide) (fun c25 => ?_) (fun c25 => ?_)
    ·
      refine g_iload_n (pc' := 70) dX6_readPart_69 rfl rfl ?_
      refine g_zret dX6_readPart_70 rfl (by rfl) (by decide) (by decide) ?_
      refine hQ _ _ ?_
      have nt : ¬ b p = 38 := fun z => c25 ((hrc_eq hb (by decide) (by decide)).mpr z)
      rw [pc_6, cif_f nt]
      exact PB.ok rfl ⟨s, hst, hs0, hs1, sc⟩
    ·
      have tm : b p = 38 := (hrc_eq hb (by decide) (by decide)).mp c25
      have hlt := hb.lt (p := p) (by omega)
      have h9 : (pc b u 1 A o (p + 1)).1 ≠ 9 := by
        have q := hne
        rw [pc_6, cif_t tm] at q
        exact bnd_9 q
      have pq := pc_ok hb u 1 A o (p + 1) (by omega)
      have pq1 := pq.1
      have pr : (pc b u 1 A o (p + 1)).1 = 0 → p + 1 ≤ (pc b u 1 A o (p + 1)).2.1 := fun e => (pq.2.2 e).1
      have hstA := ST.as (c := nI 38) (a := nI 0) (ST.at (q := p + 1) hst) (show s0 ≤ s by omega) (show s < 200 by omega)
      refine g_aload_n (pc' := 29) dX6_readPart_28 rfl rfl ?_
      refine g_dup (pc' := 30) dX6_readPart_29 rfl rfl ?_
      refine g_getIv (v := nI (p)) (pc' := 33) (k := 8) dX6_readPart_30 rfl rfl ck_7 (by decide) fl_X6_43 rfl (hst.2.2.1) ?_
      refine g_iconstN (n := 1) (pc' := 34) dX6_readPart_33 rfl ?_
      refine g_iaddN (pc' := 35) dX6_readPart_34 rfl ?_
      refine g_putI (pc' := 38) (k := 8) dX6_readPart_35 rfl rfl ck_7 (by decide) fl_X6_43 rfl rfl rfl rfl ?_
      refine g_aload_n (pc' := 39) dX6_readPart_38 rfl rfl ?_
      refine g_getIv (v := nI (s)) (pc' := 42) (k := 9) dX6_readPart_39 rfl rfl ck_7 (by decide) fl_X6_46 rfl ((ST.at (q := p + 1) hst).2.2.2) ?_
      refine g_istore (pc' := 44) dX6_readPart_42 rfl (by decide) rfl ?_
      try simp only [List.set]
      refine g_aload_n (pc' := 45) dX6_readPart_44 rfl rfl ?_
      refine g_bipushN (n := 38) (pc' := 47) dX6_readPart_45 rfl (by decide) ?_
      refine g_iconstN (n := 0) (pc' := 48) dX6_readPart_47 rfl ?_
      refine g_invV (pc' := 51) (cr_add hok (ST.at (q := p + 1) hst).1.1 (ST.at (q := p + 1) hst).2.2.2 (by omega) _ _) dX6_readPart_48 rfl rfl ck_7 rfl ml_X6_91 im_X6_addStep sl_X6_addStep in_X6 co_X6_addStep pd_X6_addStep rfl (by omega) (by decide) ⟨by decide, by decide⟩ (Nat.le_of_ble_eq_true rfl) ?_
      rintro _ _ ⟨rfl, rfl⟩ -
      refine g_aload_n (pc' := 52) dX6_readPart_51 rfl rfl ?_
      refine g_iload_n (pc' := 53) dX6_readPart_52 rfl rfl ?_
      refine g_invV (pc' := 56) (hF A o (p + 1) (s + 1) _ ho (by omega) (by omega) (ST.re hstA (s + 1)) h9) dX6_readPart_53 rfl rfl ck_7 rfl ml_X6_99 im_X6_readPiece sl_X6_readPiece in_X6 co_X6_readPiece pd_X6_readPiece rfl (by omega) (by decide) ⟨by decide, by decide⟩ (Nat.le_of_ble_eq_true rfl) ?_
      rintro _ h2 ⟨rfl, q1, q2⟩ -
      rcases Classical.em ((pc b u 1 A o (p + 1)).1 = 0) with e2 | e2
      ·
        obtain ⟨s2, hst2, l12, l22, sc2⟩ := q1 e2
        rw [show bi ((pc b u 1 A o (p + 1)).1 = 0) = nI 1 from bi_t e2]
        refine g_istore_n (pc' := 57) dX6_readPart_56 rfl (by decide) rfl ?_
        try simp only [List.set]
        refine g_aload_n (pc' := 58) dX6_readPart_57 rfl rfl ?_
        refine g_iload (pc' := 60) dX6_readPart_58 rfl rfl ?_
        refine g_invV (pc' := 63) (cr_end hok (j := s) hst2.1.1 (by omega)) dX6_readPart_60 rfl rfl ck_7 rfl ml_X6_95 im_X6_endJump sl_X6_endJump in_X6 co_X6_endJump pd_X6_endJump rfl (by omega) (by decide) ⟨by decide, by decide⟩ (Nat.le_of_ble_eq_true rfl) ?_
        rintro _ _ ⟨rfl, rfl⟩ -
        refine g_iincN (k := 1) (pc' := 66) dX6_readPart_63 rfl rfl (by decide) rfl ?_
        try simp only [List.set]
        refine g_goto (tgt := 8) dX6_readPart_66 (by decide) ?_
        refine G.drop 4 ?_
        simp only [List.set]
        have eq : pc b (u + 1) 6 A o p = pc b u 6 (fAnd A (pc b u 1 A o (p + 1)).2.2) o (pc b u 1 A o (p + 1)).2.1 := by rw [pc_6, cif_t tm, bnd_t e2]
        have sc3 := SC.ejA (g := 38) (h := h2) (x := h2.1 (6, i) 9) (by decide) (SC.kt (h := (asH i s (nI 38) (nI 0) (wI h1 (6, i) 8 (nI (p + 1))))) (SC.as (h := wI h1 (6, i) 8 (nI (p + 1))) (c := nI 38) (a := nI 0) sc (Nat.le_refl s)) hst2.2.1 (by omega)) sc2 ((hst2.2.1.2.2.1 s (by omega)).1.trans (as_c (by omega)).1) hst2.2.2.2
        rw [if_pos rfl] at sc3
        exact hL (fAnd A (pc b u 1 A o (p + 1)).2.2) o p0 s0 (pc b u 1 A o (p + 1)).2.1 s2 (kk + 1) h _ h0 Q ho (by omega) (by omega) (by omega) pq1 (by omega) (ST.ej (ST.tr hstA hst2 (by omega)) (by omega)) sc3 (by rw [← eq]; exact hne) (fun v h3 q => hQ v h3 (by rw [eq]; exact q))
      ·
        have fb := q2 e2
        obtain ⟨s2, l12, l22, e9⟩ := fb.2.2.1
        rw [show bi ((pc b u 1 A o (p + 1)).1 = 0) = nI 0 from bi_f e2]
        refine g_istore_n (pc' := 57) dX6_readPart_56 rfl (by decide) rfl ?_
        try simp only [List.set]
        refine g_aload_n (pc' := 58) dX6_readPart_57 rfl rfl ?_
        refine g_iload (pc' := 60) dX6_readPart_58 rfl rfl ?_
        refine g_invV (pc' := 63) (cr_end hok (j := s) fb.1.1 (by omega)) dX6_readPart_60 rfl rfl ck_7 rfl ml_X6_95 im_X6_endJump sl_X6_endJump in_X6 co_X6_endJump pd_X6_endJump rfl (by omega) (by decide) ⟨by decide, by decide⟩ (Nat.le_of_ble_eq_true rfl) ?_
        rintro _ _ ⟨rfl, rfl⟩ -
        refine g_iincN (k := 1) (pc' := 66) dX6_readPart_63 rfl rfl (by decide) rfl ?_
        try simp only [List.set]
        refine g_goto (tgt := 8) dX6_readPart_66 (by decide) ?_
        refine G.drop 4 ?_
        simp only [List.set]
        refine g_iload_n (pc' := 9) dX6_readPart_8 rfl rfl ?_
        refine g_sipushN (n := 200) (pc' := 12) dX6_readPart_9 rfl (by decide) ?_
        refine g_icmp_geN (tgt := 69) (pc' := 15) dX6_readPart_12 rfl (by decide) (by omega) (by omega) (fun c12 => ?_) (fun c12 => ?_)
        ·
          refine g_iload_n (pc' := 70) dX6_readPart_69 rfl rfl ?_
          refine g_zret dX6_readPart_70 rfl (by rfl) (by decide) (by decide) ?_
          refine hQ _ _ ?_
          rw [pc_6, cif_t tm, bnd_f e2]
          exact PB.no e2 ((FB.tr hstA fb (by omega)).ej (by omega))
        ·
          refine g_iload_n (pc' := 16) dX6_readPart_15 rfl rfl ?_
          refine g_if_eqN (tgt := 69) (pc' := 19) dX6_readPart_16 rfl (by decide) (by decide) (fun _ => ?_) (fun q => False.elim (by revert q; decide))
          refine g_iload_n (pc' := 70) dX6_readPart_69 rfl rfl ?_
          refine g_zret dX6_readPart_70 rfl (by rfl) (by decide) (by decide) ?_
          refine hQ _ _ ?_
          rw [pc_6, cif_t tm, bnd_f e2]
          exact PB.no e2 ((FB.tr hstA fb (by omega)).ej (by omega))
theorem cc_all {E : En} (hok : EOK E) {b : Nat → Nat} {n i : Nat} (hb : HB b n) : ∀ u, CC1 E m_X6_readComparison 7 b n i u 0 ∧ CC1 E m_X6_readPiece 8 b n i u 1 ∧ CC1 E m_X6_readInBrackets 7 b n i u 2 ∧ CC1 E m_X6_readCondition 10 b n i u 3 ∧ CC1 E m_X6_readPart 9 b n i u 4 ∧ LC1 E m_X6_readCondition 10 b n i u 5 ∧ LC1 E m_X6_readPart 9 b n i u 6
  | 0 => ⟨fun _ _ _ _ _ _ _ _ _ z => absurd rfl z, fun _ _ _ _ _ _ _ _ _ z => absurd rfl z, fun _ _ _ _ _ _ _ _ _ z => absurd rfl z, fun _ _ _ _ _ _ _ _ _ z => absurd rfl z, fun _ _ _ _ _ _ _ _ _ z => absurd rfl z, fun _ _ _ _ _ _ _ _ _ _ _ _ _ _ _ _ _ _ _ z => absurd rfl z, fun _ _ _ _ _ _ _ _ _ _ _ _ _ _ _ _ _ _ _ z => absurd rfl z⟩
  | u + 1 => by
    obtain ⟨a, c, d, e, f, g, k⟩ := cc_all hok hb (i := i) u
    exact ⟨comp_step hok hb, piece_step hok hb d a c, inbr_step hok hb e, cond_step hok hb f g, part_step hok hb c k, ct_step hok hb f g, pt_step hok hb c k⟩
theorem cr_inbr {E : En} (hok : EOK E) {b : Nat → Nat} {n i : Nat} (hb : HB b n) (A : Mng) {p s : Nat} {h : Hp} (hsp : s ≤ p) (hp : p ≤ n) (hst : ST b n i s p s h h) : Call E m_X6_readInBrackets 31 0 0 [vR (6, i), vI (nI 0)] h (PB b n i true p s (pc b 1300 2 A 0 p) h) :=
  (cc_all hok hb 1300).2.2.1 A 0 p s h (by decide) hsp hp hst (pc_t hb 1300 2 A 0 p hp (by show 6 * (n - p) + 2 ≤ 1300; have := hb.1; omega))
