/-! the class reads sums -/
def CE1 (E : En) (y : Mt) (k : Nat) (b : Nat → Nat) (n i u md : Nat) : Prop := ∀ (A : Mng) (o p s : Nat) (h : Hp), o ≤ 6 → s ≤ p → p ≤ n → ST b n i s p s h h → (px b u md A o p).1 ≠ 9 → Call E y (3 * (6 - o) + k) 0 0 [vR (6, i), vI (nI o)] h (PB b n i false p s (px b u md A o p) h)
def LE1 (E : En) (y : Mt) (k : Nat) (b : Nat → Nat) (n i u md : Nat) : Prop := ∀ (A : Mng) (o p0 s0 p s kk : Nat) (h h1 h0 : Hp) (Q : Option V → Hp → Prop), o ≤ 6 → s0 < s → s ≤ p → s + p0 ≤ s0 + p → p ≤ n → kk ≤ p → ST b n i s0 p s h h1 → SC (h1.1 (35, i)) (h1.1 (36, i)) s0 s false A → (px b u md A o p).1 ≠ 9 → (∀ v h2, PB b n i false p0 s0 (px b u md A o p) h v h2 → Q v h2) → G E y (3 * (6 - o) + k) 0 0 Q h0 8 [some (vR (6, i)), some (vI (nI o)), some (vI (nI 1)), some (vI (nI kk)), none] [] h1 0 0
/-- the result of a number -/
noncomputable def nuR (b : Nat → Nat) (p : Nat) (A : Mng) : Rs := cif (dgt (b (numS b 5 p 0).1)) (2, (numS b 5 p 0).1, A) (0, (numS b 5 p 0).1, fN (nI (numS b 5 p 0).2))
set_option maxRecDepth 4000 in
theorem nu_tail {E : En} (hok : EOK E) {b : Nat → Nat} {n i p s : Nat} {A : Mng} {h h0 : Hp} (hb : HB b n) (hp : p < n) (hsp : s ≤ p) {Q : Option V → Hp → Prop} (hQ : ∀ v h2, PB b n i false p s (nuR b p A) h v h2 → Q v h2) {q v k : Nat} {h1 : Hp} (hq : q ≤ n) (hpq : p < q) (hst : ST b n i s q s h h1) (hN : (q, v) = numS b 5 p 0) : G E m_X6_readNumber 1 0 0 Q h0 48 [some (vR (6, i)), some (vI (nI v)), some (vI (nI k))] [] h1 0 0 := by
  have hn := hb.1
  have hs := hst.1.1
  refine g_aload_n (pc' := 49) dX6_readNumber_48 rfl rfl ?_
  refine g_bipushN (n := 48) (pc' := 51) dX6_readNumber_49 rfl (by decide) ?_
  refine g_iload_n (pc' := 52) dX6_readNumber_51 rfl rfl ?_
  refine g_invV (pc' := 55) (cr_add hok hst.1.1 hst.2.2.2 (by omega) _ _) dX6_readNumber_52 rfl rfl ck_7 rfl ml_X6_91 im_X6_addStep sl_X6_addStep in_X6 co_X6_addStep pd_X6_addStep rfl (by omega) (by decide) ⟨by decide, by decide⟩ (Nat.le_of_ble_eq_true rfl) ?_
  rintro _ _ ⟨rfl, rfl⟩ -
  have hst := ST.as (c := nI 48) (a := nI v) hst (Nat.le_refl s) (by omega)
  refine g_aload_n (pc' := 56) dX6_readNumber_55 rfl rfl ?_
  refine g_invV (pc' := 59) (cr_here hok hb hst (by omega)) dX6_readNumber_56 rfl rfl ck_7 rfl ml_X6_66 im_X6_here sl_X6_here in_X6 co_X6_here pd_X6_here rfl (by omega) (by decide) ⟨by decide, by decide⟩ (Nat.le_of_ble_eq_true rfl) ?_
  rintro _ _ ⟨rfl, rfl⟩ -
  refine g_invS (pc' := 62) (cr_digit hok hb) dX6_readNumber_59 rfl ml_X6_111 st_X6_isDigit in_X6 co_X6_isDigit pd_X6_isDigit rfl (by omega) (by decide) ⟨by decide, by decide⟩ (Nat.le_of_ble_eq_true rfl) ?_
  rintro _ _ ⟨rfl, rfl⟩ -
  refine g_ifB_eq (tgt := 73) (pc' := 65) dX6_readNumber_62 rfl (by decide) (fun c62 => ?_) (fun c62 => ?_)
  ·
    refine g_iconstN (n := 1) (pc' := 74) dX6_readNumber_73 rfl ?_
    refine g_zret dX6_readNumber_74 rfl (by rfl) (by decide) (by decide) ?_
    refine hQ _ _ ?_
    unfold nuR
    rw [← hN]
    dsimp only
    rw [cif_f c62]
    exact PB.ok rfl ⟨s + 1, hst, Nat.lt_succ_self s, by show s + 1 + p ≤ s + q; omega, SC.asV (by omega)⟩
  ·
    refine g_aload_n (pc' := 66) dX6_readNumber_65 rfl rfl ?_
    refine g_iconstN (n := 2) (pc' := 67) dX6_readNumber_66 rfl ?_
    refine g_invV (pc' := 70) (cr_failed hok hst.2.2.1 2) dX6_readNumber_67 rfl rfl ck_7 rfl ml_X6_70 im_X6_failed sl_X6_failed in_X6 co_X6_failed pd_X6_failed rfl (by omega) (by decide) ⟨by decide, by decide⟩ (Nat.le_of_ble_eq_true rfl) ?_
    rintro _ _ ⟨rfl, rfl⟩ -
    refine g_goto (tgt := 74) dX6_readNumber_70 (by decide) ?_
    refine g_zret dX6_readNumber_74 rfl (by rfl) (by decide) (by decide) ?_
    refine hQ _ _ ?_
    unfold nuR
    rw [← hN]
    dsimp only
    rw [cif_t c62]
    exact PB.no (by show ¬ (2 : Nat) = 0; decide) (FB.fa hst (Nat.le_succ s) (by omega))
set_option maxRecDepth 4000 in
theorem nu_loop {E : En} (hok : EOK E) {b : Nat → Nat} {n i p s : Nat} {A : Mng} {h h0 : Hp} (hb : HB b n) (hp : p < n) (hsp : s ≤ p) {Q : Option V → Hp → Prop} (hQ : ∀ v h2, PB b n i false p s (nuR b p A) h v h2 → Q v h2) (hd : dgt (b p)) : ∀ (j q v k : Nat) (h1 : Hp), k ≤ 5 → 5 - k = j → q ≤ n → p ≤ q → (p = q → k = 0) → ST b n i s q s h h1 → numS b j q v = numS b 5 p 0 → G E m_X6_readNumber 1 0 0 Q h0 4 [some (vR (6, i)), some (vI (nI v)), some (vI (nI k))] [] h1 0 0 := by
  have hn := hb.1
  intro j
  induction j with
  | zero =>
    intro q v k h1 hk hj hq hpq hz hst hN
    refine g_iload_n (pc' := 5) dX6_readNumber_4 rfl rfl ?_
    refine g_iconstN (n := 5) (pc' := 6) dX6_readNumber_5 rfl ?_
    refine g_icmp_geN (tgt := 48) (pc' := 9) dX6_readNumber_6 rfl (by decide) (by omega) (by omega) (fun c6 => ?_) (fun c6 => ?_)
    ·
      exact nu_tail hok hb hp hsp hQ hq (by omega) hst (hN)
    · exact absurd c6 (by omega)
  | succ j ih =>
    intro q v k h1 hk hj hq hpq hz hst hN
    refine g_iload_n (pc' := 5) dX6_readNumber_4 rfl rfl ?_
    refine g_iconstN (n := 5) (pc' := 6) dX6_readNumber_5 rfl ?_
    refine g_icmp_geN (tgt := 48) (pc' := 9) dX6_readNumber_6 rfl (by decide) (by omega) (by omega) (fun c6 => ?_) (fun c6 => ?_)
    · exact absurd c6 (by omega)
    ·
      refine g_aload_n (pc' := 10) dX6_readNumber_9 rfl rfl ?_
      refine g_invV (pc' := 13) (cr_here hok hb hst (by omega)) dX6_readNumber_10 rfl rfl ck_7 rfl ml_X6_66 im_X6_here sl_X6_here in_X6 co_X6_here pd_X6_here rfl (by omega) (by decide) ⟨by decide, by decide⟩ (Nat.le_of_ble_eq_true rfl) ?_
      rintro _ _ ⟨rfl, rfl⟩ -
      refine g_invS (pc' := 16) (cr_digit hok hb) dX6_readNumber_13 rfl ml_X6_111 st_X6_isDigit in_X6 co_X6_isDigit pd_X6_isDigit rfl (by omega) (by decide) ⟨by decide, by decide⟩ (Nat.le_of_ble_eq_true rfl) ?_
      rintro _ _ ⟨rfl, rfl⟩ -
      refine g_ifB_eq (tgt := 48) (pc' := 19) dX6_readNumber_16 rfl (by decide) (fun c16 => ?_) (fun c16 => ?_)
      ·
        have hpq2 : p < q := by
          rcases Nat.lt_or_ge p q with z | z
          · exact z
          · have e : p = q := by omega
            subst e
            exact absurd hd c16
        exact nu_tail hok hb hp hsp hQ hq (by exact hpq2) hst ((cif_f c16).symm.trans hN)
      ·
        have hlt := hb.lt (dgt_ne c16)
        have hdg : 48 ≤ b q := c16.1
        refine g_bipushN (n := 10) (pc' := 21) dX6_readNumber_19 rfl (by decide) ?_
        refine g_iload_n (pc' := 22) dX6_readNumber_21 rfl rfl ?_
        refine g_imulN (pc' := 23) dX6_readNumber_22 rfl ?_
        refine g_aload_n (pc' := 24) dX6_readNumber_23 rfl rfl ?_
        refine g_invV (pc' := 27) (cr_here hok hb hst (by omega)) dX6_readNumber_24 rfl rfl ck_7 rfl ml_X6_66 im_X6_here sl_X6_here in_X6 co_X6_here pd_X6_here rfl (by omega) (by decide) ⟨by decide, by decide⟩ (Nat.le_of_ble_eq_true rfl) ?_
        rintro _ _ ⟨rfl, rfl⟩ -
        rw [hrc_t hlt]
        refine g_iaddN (pc' := 28) dX6_readNumber_27 rfl ?_
        refine g_bipushN (n := 48) (pc' := 30) dX6_readNumber_28 rfl (by decide) ?_
        refine g_isubN (pc' := 31) dX6_readNumber_30 rfl (by omega) ?_
        refine g_istore_n (pc' := 32) dX6_readNumber_31 rfl (by decide) rfl ?_
        try simp only [List.set]
        refine g_aload_n (pc' := 33) dX6_readNumber_32 rfl rfl ?_
        refine g_dup (pc' := 34) dX6_readNumber_33 rfl rfl ?_
        refine g_getIv (v := nI (q)) (pc' := 37) (k := 8) dX6_readNumber_34 rfl rfl ck_7 (by decide) fl_X6_43 rfl (hst.2.2.1) ?_
        refine g_iconstN (n := 1) (pc' := 38) dX6_readNumber_37 rfl ?_
        refine g_iaddN (pc' := 39) dX6_readNumber_38 rfl ?_
        refine g_putI (pc' := 42) (k := 8) dX6_readNumber_39 rfl rfl ck_7 (by decide) fl_X6_43 rfl rfl rfl rfl ?_
        refine g_iincN (k := 1) (pc' := 45) dX6_readNumber_42 rfl rfl (by decide) rfl ?_
        try simp only [List.set]
        refine g_goto (tgt := 4) dX6_readNumber_45 (by decide) ?_
        have eN : numS b (j + 1) q v = numS b j (q + 1) (10 * v + b q - 48) := cif_t c16
        exact ih (q + 1) (10 * v + b q - 48) (k + 1) _ (by omega) (by omega) (by omega) (by omega) (by omega) hst.at (eN.symm.trans hN)
set_option maxRecDepth 4000 in
theorem cr_num {E : En} (hok : EOK E) {h : Hp} {b : Nat → Nat} {n i p s : Nat} (A : Mng) (hb : HB b n) (hst : ST b n i s p s h h) (hp : p < n) (hsp : s ≤ p) (hd : dgt (b p)) : Call E m_X6_readNumber 1 0 0 [vR (6, i)] h (PB b n i false p s (nuR b p A) h) := by
  refine Call.enter hok (by decide) (Nat.le_of_ble_eq_true rfl) ?_
  show G E m_X6_readNumber 1 0 0 _ h 0 [some (vR (6, i)), none, none] [] h 0 0
  refine g_iconstN (n := 0) (pc' := 1) dX6_readNumber_0 rfl ?_
  refine g_istore_n (pc' := 2) dX6_readNumber_1 rfl (by decide) rfl ?_
  try simp only [List.set]
  refine g_iconstN (n := 0) (pc' := 3) dX6_readNumber_2 rfl ?_
  refine g_istore_n (pc' := 4) dX6_readNumber_3 rfl (by decide) rfl ?_
  try simp only [List.set]
  exact nu_loop (A := A) hok hb hp hsp (fun _ _ q => q) hd 5 p 0 0 h (by decide) rfl (by omega) (Nat.le_refl _) (fun _ => rfl) hst rfl
set_option maxRecDepth 4000 in
theorem fac_step {E : En} (hok : EOK E) {b : Nat → Nat} {n i u : Nat} (hb : HB b n) (hE : CE1 E m_X6_readExpression 6 b n i u 3) : CE1 E m_X6_readFactor 4 b n i (u + 1) 0 := by
  intro A o p s h ho hsp hp hst hne
  have hn := hb.1
  have h92 : h.2.2 (92, 0) = true := hst.1.2.2.2.2.2.1
  refine Call.enter hok (by decide) (Nat.le_of_ble_eq_true rfl) ?_
  show G E m_X6_readFactor (3 * (6 - o) + 4) 0 0 _ h 0 [some (vR (6, i)), some (vI (nI o)), none] [] h 0 0
  refine g_aload_n (pc' := 1) dX6_readFactor_0 rfl rfl ?_
  refine g_invV (pc' := 4) (cr_here hok hb hst (by omega)) dX6_readFactor_1 rfl rfl ck_7 rfl ml_X6_66 im_X6_here sl_X6_here in_X6 co_X6_here pd_X6_here rfl (by omega) (by decide) ⟨by decide, by decide⟩ (Nat.le_of_ble_eq_true rfl) ?_
  rintro _ _ ⟨rfl, rfl⟩ -
  refine g_istore_n (pc' := 5) dX6_readFactor_4 rfl (by decide) rfl ?_
  try simp only [List.set]
  refine g_iload_n (pc' := 6) dX6_readFactor_5 rfl rfl ?_
  refine g_invS (pc' := 9) (cr_digit hok hb) dX6_readFactor_6 rfl ml_X6_111 st_X6_isDigit in_X6 co_X6_isDigit pd_X6_isDigit rfl (by omega) (by decide) ⟨by decide, by decide⟩ (Nat.le_of_ble_eq_true rfl) ?_
  rintro _ _ ⟨rfl, rfl⟩ -
  refine g_ifB_eq (tgt := 17) (pc' := 12) dX6_readFactor_9 rfl (by decide) (fun c9 => ?_) (fun c9 => ?_)
  ·
    refine g_iload_n (pc' := 18) dX6_readFactor_17 rfl rfl ?_
    refine g_bipushN (n := 97) (pc' := 20) dX6_readFactor_18 rfl (by decide) ?_
    refine g_icmp_lt (tgt := 61) (pc' := 23) dX6_readFactor_20 rfl (by decide) (fun c20 => ?_) (fun c20 => ?_)
    ·
      have nl : ¬ isLt (b p) := by
        first
        | exact hrc_lo hb c20
        | exact hrc_hi hb c26
        | exact hv.mp c36
      refine g_iload_n (pc' := 62) dX6_readFactor_61 rfl rfl ?_
      refine g_bipushN (n := 91) (pc' := 64) dX6_readFactor_62 rfl (by decide) ?_
      refine g_icmp_ne (tgt := 79) (pc' := 67) dX6_readFactor_64 rfl (by decide) (fun c64 => ?_) (fun c64 => ?_)
      ·
        have n91 : ¬ b p = 91 := by
          first
          | exact c64
          | exact fun z => c64 ((hrc_eq hb (by decide) (by decide)).mpr z)
        refine g_aload_n (pc' := 80) dX6_readFactor_79 rfl rfl ?_
        refine g_bipushN (n := 91) (pc' := 82) dX6_readFactor_80 rfl (by decide) ?_
        refine g_invV (pc' := 85) (cr_sign hok hb hst hp (c := 91) ⟨by decide, by decide⟩) dX6_readFactor_82 rfl rfl ck_7 rfl ml_X6_62 im_X6_readSign sl_X6_readSign in_X6 co_X6_readSign pd_X6_readSign rfl (by omega) (by decide) ⟨by decide, by decide⟩ (Nat.le_of_ble_eq_true rfl) ?_
        rintro _ h82 ⟨rfl, e82⟩ -
        refine g_ifB_eq (tgt := 111) (pc' := 88) dX6_readFactor_85 rfl (by decide) (fun c85 => ?_) (fun c85 => ?_)
        ·
          rw [cif_f c85] at e82
          subst e82
          refine g_iconstN (n := 0) (pc' := 112) dX6_readFactor_111 rfl ?_
          refine g_zret dX6_readFactor_112 rfl (by rfl) (by decide) (by decide) ?_
          show PB b n i false p s (px b (u + 1) 0 A o p) h _ _
          rw [px_0, cif_f c9, cif_f nl, cif_f n91]
          exact PB.no (by show ¬ (1 : Nat) = 0; decide) (FB.fa hst (Nat.le_refl s) (by omega))
        · exact absurd c85 n91
      ·
        have e91 : b p = 91 := by
          first
          | exact c64
          | exact (hrc_eq hb (by decide) (by decide)).mp c64
        refine g_iload_n (pc' := 68) dX6_readFactor_67 rfl rfl ?_
        refine g_bipushN (n := 6) (pc' := 70) dX6_readFactor_68 rfl (by decide) ?_
        refine g_icmp_ltN (tgt := 79) (pc' := 73) dX6_readFactor_70 rfl (by decide) (by omega) (by omega) (fun c70 => ?_) (fun c70 => ?_)
        ·
          have hlt := hb.lt (p := p) (by omega)
          have h9 : (px b u 3 A (o + 1) (p + 1)).1 ≠ 9 := by
            have q := hne
            rw [px_0, cif_f c9, cif_f nl, cif_t e91, cif_f (by omega)] at q
            exact bnd_9 q
          have pq := px_ok hb u 3 A (o + 1) (p + 1) (by omega)
          have pq1 := pq.1
          refine g_aload_n (pc' := 80) dX6_readFactor_79 rfl rfl ?_
          refine g_bipushN (n := 91) (pc' := 82) dX6_readFactor_80 rfl (by decide) ?_
          refine g_invV (pc' := 85) (cr_sign hok hb hst hp (c := 91) ⟨by decide, by decide⟩) dX6_readFactor_82 rfl rfl ck_7 rfl ml_X6_62 im_X6_readSign sl_X6_readSign in_X6 co_X6_readSign pd_X6_readSign rfl (by omega) (by decide) ⟨by decide, by decide⟩ (Nat.le_of_ble_eq_true rfl) ?_
          rintro _ h82 ⟨rfl, e82⟩ -
          refine g_ifB_eq (tgt := 111) (pc' := 88) dX6_readFactor_85 rfl (by decide) (fun c85 => ?_) (fun c85 => ?_)
          · exact absurd e91 c85
          ·
            rw [cif_t c85] at e82
            subst e82
            refine g_aload_n (pc' := 89) dX6_readFactor_88 rfl rfl ?_
            refine g_iload_n (pc' := 90) dX6_readFactor_89 rfl rfl ?_
            refine g_iconstN (n := 1) (pc' := 91) dX6_readFactor_90 rfl ?_
            refine g_iaddN (pc' := 92) dX6_readFactor_91 rfl ?_
            refine g_invV (pc' := 95) (hE A (o + 1) (p + 1) s _ (by omega) (by omega) (by omega) (ST.re (ST.at (q := p + 1) hst) s) h9) dX6_readFactor_92 rfl rfl ck_7 rfl ml_X6_79 im_X6_readExpression sl_X6_readExpression in_X6 co_X6_readExpression pd_X6_readExpression rfl (by omega) (by decide) ⟨by decide, by decide⟩ (Nat.le_of_ble_eq_true rfl) ?_
            rintro _ h2 ⟨rfl, q1, q2⟩ -
            rcases Classical.em ((px b u 3 A (o + 1) (p + 1)).1 = 0) with e92 | e92
            ·
              obtain ⟨s2, hst2, l1, l2, sc2⟩ := q1 e92
              rw [show bi ((px b u 3 A (o + 1) (p + 1)).1 = 0) = nI 1 from bi_t e92]
              refine g_if_eqN (tgt := 111) (pc' := 98) dX6_readFactor_95 rfl (by decide) (by decide) (fun q => False.elim (by revert q; decide)) (fun _ => ?_)
              refine g_aload_n (pc' := 99) dX6_readFactor_98 rfl rfl ?_
              refine g_bipushN (n := 93) (pc' := 101) dX6_readFactor_99 rfl (by decide) ?_
              refine g_invV (pc' := 104) (cr_sign hok hb hst2 pq.1 (c := 93) ⟨by decide, by decide⟩) dX6_readFactor_101 rfl rfl ck_7 rfl ml_X6_62 im_X6_readSign sl_X6_readSign in_X6 co_X6_readSign pd_X6_readSign rfl (by omega) (by decide) ⟨by decide, by decide⟩ (Nat.le_of_ble_eq_true rfl) ?_
              rintro _ h101 ⟨rfl, e101⟩ -
              refine g_ifB_eq (tgt := 111) (pc' := 107) dX6_readFactor_104 rfl (by decide) (fun c104 => ?_) (fun c104 => ?_)
              ·
                rw [cif_f c104] at e101
                subst e101
                refine g_iconstN (n := 0) (pc' := 112) dX6_readFactor_111 rfl ?_
                refine g_zret dX6_readFactor_112 rfl (by rfl) (by decide) (by decide) ?_
                show PB b n i false p s (px b (u + 1) 0 A o p) h _ _
                rw [px_0, cif_f c9, cif_f nl, cif_t e91, cif_f (by omega)]
                rw [bnd_t e92]
                rw [cif_f c104]
                exact PB.no (by show ¬ (1 : Nat) = 0; decide) (FB.fa (ST.tr (ST.at (q := p + 1) hst) hst2 (Nat.le_refl s)) (by omega) (by omega))
              ·
                rw [cif_t c104] at e101
                subst e101
                refine g_iconstN (n := 1) (pc' := 108) dX6_readFactor_107 rfl ?_
                refine g_goto (tgt := 112) dX6_readFactor_108 (by decide) ?_
                refine g_zret dX6_readFactor_112 rfl (by rfl) (by decide) (by decide) ?_
                show PB b n i false p s (px b (u + 1) 0 A o p) h _ _
                rw [px_0, cif_f c9, cif_f nl, cif_t e91, cif_f (by omega)]
                rw [bnd_t e92]
                rw [cif_t c104]
                exact PB.ok rfl ⟨s2, (ST.tr (ST.at (q := p + 1) hst) hst2 (Nat.le_refl s)).at, l1, by show s2 + p ≤ s + (_ + 1); omega, sc2⟩
            ·
              have fb := q2 e92
              rw [show bi ((px b u 3 A (o + 1) (p + 1)).1 = 0) = nI 0 from bi_f e92]
              refine g_if_eqN (tgt := 111) (pc' := 98) dX6_readFactor_95 rfl (by decide) (by decide) (fun _ => ?_) (fun q => False.elim (by revert q; decide))
              refine g_iconstN (n := 0) (pc' := 112) dX6_readFactor_111 rfl ?_
              refine g_zret dX6_readFactor_112 rfl (by rfl) (by decide) (by decide) ?_
              show PB b n i false p s (px b (u + 1) 0 A o p) h _ _
              rw [px_0, cif_f c9, cif_f nl, cif_t e91, cif_f (by omega)]
              rw [bnd_f e92]
              exact PB.no e92 (FB.tr (ST.at (q := p + 1) hst) fb (Nat.le_refl s))
        ·
          refine g_aload_n (pc' := 74) dX6_readFactor_73 rfl rfl ?_
          refine g_iconstN (n := 5) (pc' := 75) dX6_readFactor_74 rfl ?_
          refine g_invV (pc' := 78) (cr_failed hok hst.2.2.1 5) dX6_readFactor_75 rfl rfl ck_7 rfl ml_X6_70 im_X6_failed sl_X6_failed in_X6 co_X6_failed pd_X6_failed rfl (by omega) (by decide) ⟨by decide, by decide⟩ (Nat.le_of_ble_eq_true rfl) ?_
          rintro _ _ ⟨rfl, rfl⟩ -
          refine g_zret dX6_readFactor_78 rfl (by rfl) (by decide) (by decide) ?_
          show PB b n i false p s (px b (u + 1) 0 A o p) h _ _
          rw [px_0, cif_f c9, cif_f nl, cif_t e91, cif_t (by omega)]
          exact PB.no (by show ¬ (5 : Nat) = 0; decide) (FB.fa hst (Nat.le_refl s) (by omega))
    ·
      refine g_iload_n (pc' := 24) dX6_readFactor_23 rfl rfl ?_
      refine g_bipushN (n := 122) (pc' := 26) dX6_readFactor_24 rfl (by decide) ?_
      refine g_icmp_gt (tgt := 61) (pc' := 29) dX6_readFactor_26 rfl (by decide) (fun c26 => ?_) (fun c26 => ?_)
      ·
        have nl : ¬ isLt (b p) := by
          first
          | exact hrc_lo hb c20
          | exact hrc_hi hb c26
          | exact hv.mp c36
        refine g_iload_n (pc' := 62) dX6_readFactor_61 rfl rfl ?_
        refine g_bipushN (n := 91) (pc' := 64) dX6_readFactor_62 rfl (by decide) ?_
        refine g_icmp_ne (tgt := 79) (pc' := 67) dX6_readFactor_64 rfl (by decide) (fun c64 => ?_) (fun c64 => ?_)
        ·
          have n91 : ¬ b p = 91 := by
            first
            | exact c64
            | exact fun z => c64 ((hrc_eq hb (by decide) (by decide)).mpr z)
          refine g_aload_n (pc' := 80) dX6_readFactor_79 rfl rfl ?_
          refine g_bipushN (n := 91) (pc' := 82) dX6_readFactor_80 rfl (by decide) ?_
          refine g_invV (pc' := 85) (cr_sign hok hb hst hp (c := 91) ⟨by decide, by decide⟩) dX6_readFactor_82 rfl rfl ck_7 rfl ml_X6_62 im_X6_readSign sl_X6_readSign in_X6 co_X6_readSign pd_X6_readSign rfl (by omega) (by decide) ⟨by decide, by decide⟩ (Nat.le_of_ble_eq_true rfl) ?_
          rintro _ h82 ⟨rfl, e82⟩ -
          refine g_ifB_eq (tgt := 111) (pc' := 88) dX6_readFactor_85 rfl (by decide) (fun c85 => ?_) (fun c85 => ?_)
          ·
            rw [cif_f c85] at e82
            subst e82
            refine g_iconstN (n := 0) (pc' := 112) dX6_readFactor_111 rfl ?_
            refine g_zret dX6_readFactor_112 rfl (by rfl) (by decide) (by decide) ?_
            show PB b n i false p s (px b (u + 1) 0 A o p) h _ _
            rw [px_0, cif_f c9, cif_f nl, cif_f n91]
            exact PB.no (by show ¬ (1 : Nat) = 0; decide) (FB.fa hst (Nat.le_refl s) (by omega))
          · exact absurd c85 n91
        ·
          have e91 : b p = 91 := by
            first
            | exact c64
            | exact (hrc_eq hb (by decide) (by decide)).mp c64
          refine g_iload_n (pc' := 68) dX6_readFactor_67 rfl rfl ?_
          refine g_bipushN (n := 6) (pc' := 70) dX6_readFactor_68 rfl (by decide) ?_
          refine g_icmp_ltN (tgt := 79) (pc' := 73) dX6_readFactor_70 rfl (by decide) (by omega) (by omega) (fun c70 => ?_) (fun c70 => ?_)
          ·
            have hlt := hb.lt (p := p) (by omega)
            have h9 : (px b u 3 A (o + 1) (p + 1)).1 ≠ 9 := by
              have q := hne
              rw [px_0, cif_f c9, cif_f nl, cif_t e91, cif_f (by omega)] at q
              exact bnd_9 q
            have pq := px_ok hb u 3 A (o + 1) (p + 1) (by omega)
            have pq1 := pq.1
            refine g_aload_n (pc' := 80) dX6_readFactor_79 rfl rfl ?_
            refine g_bipushN (n := 91) (pc' := 82) dX6_readFactor_80 rfl (by decide) ?_
            refine g_invV (pc' := 85) (cr_sign hok hb hst hp (c := 91) ⟨by decide, by decide⟩) dX6_readFactor_82 rfl rfl ck_7 rfl ml_X6_62 im_X6_readSign sl_X6_readSign in_X6 co_X6_readSign pd_X6_readSign rfl (by omega) (by decide) ⟨by decide, by decide⟩ (Nat.le_of_ble_eq_true rfl) ?_
            rintro _ h82 ⟨rfl, e82⟩ -
            refine g_ifB_eq (tgt := 111) (pc' := 88) dX6_readFactor_85 rfl (by decide) (fun c85 => ?_) (fun c85 => ?_)
            · exact absurd e91 c85
            ·
              rw [cif_t c85] at e82
              subst e82
              refine g_aload_n (pc' := 89) dX6_readFactor_88 rfl rfl ?_
              refine g_iload_n (pc' := 90) dX6_readFactor_89 rfl rfl ?_
              refine g_iconstN (n := 1) (pc' := 91) dX6_readFactor_90 rfl ?_
              refine g_iaddN (pc' := 92) dX6_readFactor_91 rfl ?_
              refine g_invV (pc' := 95) (hE A (o + 1) (p + 1) s _ (by omega) (by omega) (by omega) (ST.re (ST.at (q := p + 1) hst) s) h9) dX6_readFactor_92 rfl rfl ck_7 rfl ml_X6_79 im_X6_readExpression sl_X6_readExpression in_X6 co_X6_readExpression pd_X6_readExpression rfl (by omega) (by decide) ⟨by decide, by decide⟩ (Nat.le_of_ble_eq_true rfl) ?_
              rintro _ h2 ⟨rfl, q1, q2⟩ -
              rcases Classical.em ((px b u 3 A (o + 1) (p + 1)).1 = 0) with e92 | e92
              ·
                obtain ⟨s2, hst2, l1, l2, sc2⟩ := q1 e92
                rw [show bi ((px b u 3 A (o + 1) (p + 1)).1 = 0) = nI 1 from bi_t e92]
                refine g_if_eqN (tgt := 111) (pc' := 98) dX6_readFactor_95 rfl (by decide) (by decide) (fun q => False.elim (by revert q; decide)) (fun _ => ?_)
                refine g_aload_n (pc' := 99) dX6_readFactor_98 rfl rfl ?_
                refine g_bipushN (n := 93) (pc' := 101) dX6_readFactor_99 rfl (by decide) ?_
                refine g_invV (pc' := 104) (cr_sign hok hb hst2 pq.1 (c := 93) ⟨by decide, by decide⟩) dX6_readFactor_101 rfl rfl ck_7 rfl ml_X6_62 im_X6_readSign sl_X6_readSign in_X6 co_X6_readSign pd_X6_readSign rfl (by omega) (by decide) ⟨by decide, by decide⟩ (Nat.le_of_ble_eq_true rfl) ?_
                rintro _ h101 ⟨rfl, e101⟩ -
                refine g_ifB_eq (tgt := 111) (pc' := 107) dX6_readFactor_104 rfl (by decide) (fun c104 => ?_) (fun c104 => ?_)
                ·
                  rw [cif_f c104] at e101
                  subst e101
                  refine g_iconstN (n := 0) (pc' := 112) dX6_readFactor_111 rfl ?_
                  refine g_zret dX6_readFactor_112 rfl (by rfl) (by decide) (by decide) ?_
                  show PB b n i false p s (px b (u + 1) 0 A o p) h _ _
                  rw [px_0, cif_f c9, cif_f nl, cif_t e91, cif_f (by omega)]
                  rw [bnd_t e92]
                  rw [cif_f c104]
                  exact PB.no (by show ¬ (1 : Nat) = 0; decide) (FB.fa (ST.tr (ST.at (q := p + 1) hst) hst2 (Nat.le_refl s)) (by omega) (by omega))
                ·
                  rw [cif_t c104] at e101
                  subst e101
                  refine g_iconstN (n := 1) (pc' := 108) dX6_readFactor_107 rfl ?_
                  refine g_goto (tgt := 112) dX6_readFactor_108 (by decide) ?_
                  refine g_zret dX6_readFactor_112 rfl (by rfl) (by decide) (by decide) ?_
                  show PB b n i false p s (px b (u + 1) 0 A o p) h _ _
                  rw [px_0, cif_f c9, cif_f nl, cif_t e91, cif_f (by omega)]
                  rw [bnd_t e92]
                  rw [cif_t c104]
                  exact PB.ok rfl ⟨s2, (ST.tr (ST.at (q := p + 1) hst) hst2 (Nat.le_refl s)).at, l1, by show s2 + p ≤ s + (_ + 1); omega, sc2⟩
              ·
                have fb := q2 e92
                rw [show bi ((px b u 3 A (o + 1) (p + 1)).1 = 0) = nI 0 from bi_f e92]
                refine g_if_eqN (tgt := 111) (pc' := 98) dX6_readFactor_95 rfl (by decide) (by decide) (fun _ => ?_) (fun q => False.elim (by revert q; decide))
                refine g_iconstN (n := 0) (pc' := 112) dX6_readFactor_111 rfl ?_
                refine g_zret dX6_readFactor_112 rfl (by rfl) (by decide) (by decide) ?_
                show PB b n i false p s (px b (u + 1) 0 A o p) h _ _
                rw [px_0, cif_f c9, cif_f nl, cif_t e91, cif_f (by omega)]
                rw [bnd_f e92]
                exact PB.no e92 (FB.tr (ST.at (q := p + 1) hst) fb (Nat.le_refl s))
          ·
            refine g_aload_n (pc' := 74) dX6_readFactor_73 rfl rfl ?_
            refine g_iconstN (n := 5) (pc' := 75) dX6_readFactor_74 rfl ?_
            refine g_invV (pc' := 78) (cr_failed hok hst.2.2.1 5) dX6_readFactor_75 rfl rfl ck_7 rfl ml_X6_70 im_X6_failed sl_X6_failed in_X6 co_X6_failed pd_X6_failed rfl (by omega) (by decide) ⟨by decide, by decide⟩ (Nat.le_of_ble_eq_true rfl) ?_
            rintro _ _ ⟨rfl, rfl⟩ -
            refine g_zret dX6_readFactor_78 rfl (by rfl) (by decide) (by decide) ?_
            show PB b n i false p s (px b (u + 1) 0 A o p) h _ _
            rw [px_0, cif_f c9, cif_f nl, cif_t e91, cif_t (by omega)]
            exact PB.no (by show ¬ (5 : Nat) = 0; decide) (FB.fa hst (Nat.le_refl s) (by omega))
      ·
        have hbp := hrc_az hb c20 c26
        rw [hbp.2.2]
        refine g_ldcS (h92) rfl (pc' := 31) dX6_readFactor_29 rfl ?_
        refine g_iload_n (pc' := 32) dX6_readFactor_31 rfl rfl ?_
        refine g_i2c (pc' := 33) dX6_readFactor_32 rfl ?_
        rw [lit_c (hb.2.1 p)]
        refine g_invVO (pc' := 36) (cs_ix hok hst.1.2.2.2.2.2.2.1 ⟨hbp.1, hbp.2.1⟩) dX6_readFactor_33 rfl rfl ml_X6_119 im_J0_indexOf_0f7a4 sl_J0_indexOf_0f7a4 in_J0 co_J0_indexOf_0f7a4 pd_J0_indexOf_0f7a4 rfl (by omega) (by decide) ⟨by decide, by decide⟩ (Nat.le_of_ble_eq_true rfl) ?_
        rintro _ _ ⟨⟨v, rfl, hv⟩, rfl⟩ -
        refine g_if_lt (tgt := 61) (pc' := 39) dX6_readFactor_36 rfl (by decide) (fun c36 => ?_) (fun c36 => ?_)
        ·
          have nl : ¬ isLt (b p) := by
            first
            | exact hrc_lo hb c20
            | exact hrc_hi hb c26
            | exact hv.mp c36
          refine g_iload_n (pc' := 62) dX6_readFactor_61 rfl rfl ?_
          refine g_bipushN (n := 91) (pc' := 64) dX6_readFactor_62 rfl (by decide) ?_
          refine g_icmp_neN (tgt := 79) (pc' := 67) dX6_readFactor_64 rfl (by decide) (by omega) (by omega) (fun c64 => ?_) (fun c64 => ?_)
          ·
            have n91 : ¬ b p = 91 := by
              first
              | exact c64
              | exact fun z => c64 ((hrc_eq hb (by decide) (by decide)).mpr z)
            refine g_aload_n (pc' := 80) dX6_readFactor_79 rfl rfl ?_
            refine g_bipushN (n := 91) (pc' := 82) dX6_readFactor_80 rfl (by decide) ?_
            refine g_invV (pc' := 85) (cr_sign hok hb hst hp (c := 91) ⟨by decide, by decide⟩) dX6_readFactor_82 rfl rfl ck_7 rfl ml_X6_62 im_X6_readSign sl_X6_readSign in_X6 co_X6_readSign pd_X6_readSign rfl (by omega) (by decide) ⟨by decide, by decide⟩ (Nat.le_of_ble_eq_true rfl) ?_
            rintro _ h82 ⟨rfl, e82⟩ -
            refine g_ifB_eq (tgt := 111) (pc' := 88) dX6_readFactor_85 rfl (by decide) (fun c85 => ?_) (fun c85 => ?_)
            ·
              rw [cif_f c85] at e82
              subst e82
              refine g_iconstN (n := 0) (pc' := 112) dX6_readFactor_111 rfl ?_
              refine g_zret dX6_readFactor_112 rfl (by rfl) (by decide) (by decide) ?_
              show PB b n i false p s (px b (u + 1) 0 A o p) h _ _
              rw [px_0, cif_f c9, cif_f nl, cif_f n91]
              exact PB.no (by show ¬ (1 : Nat) = 0; decide) (FB.fa hst (Nat.le_refl s) (by omega))
            · exact absurd c85 n91
          ·
            have e91 : b p = 91 := by
              first
              | exact c64
              | exact (hrc_eq hb (by decide) (by decide)).mp c64
            refine g_iload_n (pc' := 68) dX6_readFactor_67 rfl rfl ?_
            refine g_bipushN (n := 6) (pc' := 70) dX6_readFactor_68 rfl (by decide) ?_
            refine g_icmp_ltN (tgt := 79) (pc' := 73) dX6_readFactor_70 rfl (by decide) (by omega) (by omega) (fun c70 => ?_) (fun c70 => ?_)
            ·
              have hlt := hb.lt (p := p) (by omega)
              have h9 : (px b u 3 A (o + 1) (p + 1)).1 ≠ 9 := by
                have q := hne
                rw [px_0, cif_f c9, cif_f nl, cif_t e91, cif_f (by omega)] at q
                exact bnd_9 q
              have pq := px_ok hb u 3 A (o + 1) (p + 1) (by omega)
              have pq1 := pq.1
              refine g_aload_n (pc' := 80) dX6_readFactor_79 rfl rfl ?_
              refine g_bipushN (n := 91) (pc' := 82) dX6_readFactor_80 rfl (by decide) ?_
              refine g_invV (pc' := 85) (cr_sign hok hb hst hp (c := 91) ⟨by decide, by decide⟩) dX6_readFactor_82 rfl rfl ck_7 rfl ml_X6_62 im_X6_readSign sl_X6_readSign in_X6 co_X6_readSign pd_X6_readSign rfl (by omega) (by decide) ⟨by decide, by decide⟩ (Nat.le_of_ble_eq_true rfl) ?_
              rintro _ h82 ⟨rfl, e82⟩ -
              refine g_ifB_eq (tgt := 111) (pc' := 88) dX6_readFactor_85 rfl (by decide) (fun c85 => ?_) (fun c85 => ?_)
              · exact absurd e91 c85
              ·
                rw [cif_t c85] at e82
                subst e82
                refine g_aload_n (pc' := 89) dX6_readFactor_88 rfl rfl ?_
                refine g_iload_n (pc' := 90) dX6_readFactor_89 rfl rfl ?_
                refine g_iconstN (n := 1) (pc' := 91) dX6_readFactor_90 rfl ?_
                refine g_iaddN (pc' := 92) dX6_readFactor_91 rfl ?_
                refine g_invV (pc' := 95) (hE A (o + 1) (p + 1) s _ (by omega) (by omega) (by omega) (ST.re (ST.at (q := p + 1) hst) s) h9) dX6_readFactor_92 rfl rfl ck_7 rfl ml_X6_79 im_X6_readExpression sl_X6_readExpression in_X6 co_X6_readExpression pd_X6_readExpression rfl (by omega) (by decide) ⟨by decide, by decide⟩ (Nat.le_of_ble_eq_true rfl) ?_
                rintro _ h2 ⟨rfl, q1, q2⟩ -
                rcases Classical.em ((px b u 3 A (o + 1) (p + 1)).1 = 0) with e92 | e92
                ·
                  obtain ⟨s2, hst2, l1, l2, sc2⟩ := q1 e92
                  rw [show bi ((px b u 3 A (o + 1) (p + 1)).1 = 0) = nI 1 from bi_t e92]
                  refine g_if_eqN (tgt := 111) (pc' := 98) dX6_readFactor_95 rfl (by decide) (by decide) (fun q => False.elim (by revert q; decide)) (fun _ => ?_)
                  refine g_aload_n (pc' := 99) dX6_readFactor_98 rfl rfl ?_
                  refine g_bipushN (n := 93) (pc' := 101) dX6_readFactor_99 rfl (by decide) ?_
                  refine g_invV (pc' := 104) (cr_sign hok hb hst2 pq.1 (c := 93) ⟨by decide, by decide⟩) dX6_readFactor_101 rfl rfl ck_7 rfl ml_X6_62 im_X6_readSign sl_X6_readSign in_X6 co_X6_readSign pd_X6_readSign rfl (by omega) (by decide) ⟨by decide, by decide⟩ (Nat.le_of_ble_eq_true rfl) ?_
                  rintro _ h101 ⟨rfl, e101⟩ -
                  refine g_ifB_eq (tgt := 111) (pc' := 107) dX6_readFactor_104 rfl (by decide) (fun c104 => ?_) (fun c104 => ?_)
                  ·
                    rw [cif_f c104] at e101
                    subst e101
                    refine g_iconstN (n := 0) (pc' := 112) dX6_readFactor_111 rfl ?_
                    refine g_zret dX6_readFactor_112 rfl (by rfl) (by decide) (by decide) ?_
                    show PB b n i false p s (px b (u + 1) 0 A o p) h _ _
                    rw [px_0, cif_f c9, cif_f nl, cif_t e91, cif_f (by omega)]
                    rw [bnd_t e92]
                    rw [cif_f c104]
                    exact PB.no (by show ¬ (1 : Nat) = 0; decide) (FB.fa (ST.tr (ST.at (q := p + 1) hst) hst2 (Nat.le_refl s)) (by omega) (by omega))
                  ·
                    rw [cif_t c104] at e101
                    subst e101
                    refine g_iconstN (n := 1) (pc' := 108) dX6_readFactor_107 rfl ?_
                    refine g_goto (tgt := 112) dX6_readFactor_108 (by decide) ?_
                    refine g_zret dX6_readFactor_112 rfl (by rfl) (by decide) (by decide) ?_
                    show PB b n i false p s (px b (u + 1) 0 A o p) h _ _
                    rw [px_0, cif_f c9, cif_f nl, cif_t e91, cif_f (by omega)]
                    rw [bnd_t e92]
                    rw [cif_t c104]
                    exact PB.ok rfl ⟨s2, (ST.tr (ST.at (q := p + 1) hst) hst2 (Nat.le_refl s)).at, l1, by show s2 + p ≤ s + (_ + 1); omega, sc2⟩
                ·
                  have fb := q2 e92
                  rw [show bi ((px b u 3 A (o + 1) (p + 1)).1 = 0) = nI 0 from bi_f e92]
                  refine g_if_eqN (tgt := 111) (pc' := 98) dX6_readFactor_95 rfl (by decide) (by decide) (fun _ => ?_) (fun q => False.elim (by revert q; decide))
                  refine g_iconstN (n := 0) (pc' := 112) dX6_readFactor_111 rfl ?_
                  refine g_zret dX6_readFactor_112 rfl (by rfl) (by decide) (by decide) ?_
                  show PB b n i false p s (px b (u + 1) 0 A o p) h _ _
                  rw [px_0, cif_f c9, cif_f nl, cif_t e91, cif_f (by omega)]
                  rw [bnd_f e92]
                  exact PB.no e92 (FB.tr (ST.at (q := p + 1) hst) fb (Nat.le_refl s))
            ·
              refine g_aload_n (pc' := 74) dX6_readFactor_73 rfl rfl ?_
              refine g_iconstN (n := 5) (pc' := 75) dX6_readFactor_74 rfl ?_
              refine g_invV (pc' := 78) (cr_failed hok hst.2.2.1 5) dX6_readFactor_75 rfl rfl ck_7 rfl ml_X6_70 im_X6_failed sl_X6_failed in_X6 co_X6_failed pd_X6_failed rfl (by omega) (by decide) ⟨by decide, by decide⟩ (Nat.le_of_ble_eq_true rfl) ?_
              rintro _ _ ⟨rfl, rfl⟩ -
              refine g_zret dX6_readFactor_78 rfl (by rfl) (by decide) (by decide) ?_
              show PB b n i false p s (px b (u + 1) 0 A o p) h _ _
              rw [px_0, cif_f c9, cif_f nl, cif_t e91, cif_t (by omega)]
              exact PB.no (by show ¬ (5 : Nat) = 0; decide) (FB.fa hst (Nat.le_refl s) (by omega))
        ·
          have il : isLt (b p) := Classical.byContradiction fun z => c36 (hv.mpr z)
          have hlt := hb.lt (isLt_ne il)
          refine g_aload_n (pc' := 40) dX6_readFactor_39 rfl rfl ?_
          refine g_dup (pc' := 41) dX6_readFactor_40 rfl rfl ?_
          refine g_getIv (v := nI (p)) (pc' := 44) (k := 8) dX6_readFactor_41 rfl rfl ck_7 (by decide) fl_X6_43 rfl (hst.2.2.1) ?_
          refine g_iconstN (n := 1) (pc' := 45) dX6_readFactor_44 rfl ?_
          refine g_iaddN (pc' := 46) dX6_readFactor_45 rfl ?_
          refine g_putI (pc' := 49) (k := 8) dX6_readFactor_46 rfl rfl ck_7 (by decide) fl_X6_43 rfl rfl rfl rfl ?_
          refine g_aload_n (pc' := 50) dX6_readFactor_49 rfl rfl ?_
          refine g_bipushN (n := 97) (pc' := 52) dX6_readFactor_50 rfl (by decide) ?_
          refine g_iload_n (pc' := 53) dX6_readFactor_52 rfl rfl ?_
          refine g_bipushN (n := 97) (pc' := 55) dX6_readFactor_53 rfl (by decide) ?_
          refine g_isubN (pc' := 56) dX6_readFactor_55 rfl (by omega) ?_
          refine g_invV (pc' := 59) (cr_add hok (ST.at (q := p + 1) hst).1.1 (ST.at (q := p + 1) hst).2.2.2 (by omega) _ _) dX6_readFactor_56 rfl rfl ck_7 rfl ml_X6_91 im_X6_addStep sl_X6_addStep in_X6 co_X6_addStep pd_X6_addStep rfl (by omega) (by decide) ⟨by decide, by decide⟩ (Nat.le_of_ble_eq_true rfl) ?_
          rintro _ _ ⟨rfl, rfl⟩ -
          refine g_iconstN (n := 1) (pc' := 60) dX6_readFactor_59 rfl ?_
          refine g_zret dX6_readFactor_60 rfl (by rfl) (by decide) (by decide) ?_
          show PB b n i false p s (px b (u + 1) 0 A o p) h _ _
          rw [px_0, cif_f c9, cif_t il]
          exact PB.ok rfl ⟨s + 1, ST.as (c := nI 97) (a := nI (b p - 97)) (ST.at (q := p + 1) hst) (Nat.le_refl s) (by omega), Nat.lt_succ_self s, by show s + 1 + p ≤ s + (p + 1); omega, SC.asL (by omega) il⟩
  ·
    refine g_aload_n (pc' := 13) dX6_readFactor_12 rfl rfl ?_
    refine g_invV (pc' := 16) (cr_num hok A hb hst (hb.lt (dgt_ne c9)) hsp c9) dX6_readFactor_13 rfl rfl ck_7 rfl ml_X6_114 im_X6_readNumber sl_X6_readNumber in_X6 co_X6_readNumber pd_X6_readNumber rfl (by omega) (by decide) ⟨by decide, by decide⟩ (Nat.le_of_ble_eq_true rfl) ?_
    rintro _ h1 ⟨rfl, q1, q2⟩ -
    refine g_zret dX6_readFactor_16 rfl (nbB) (by decide) (by decide) ?_
    show PB b n i false p s (px b (u + 1) 0 A o p) h _ _
    rw [px_0, cif_t c9]
    exact ⟨rfl, q1, q2⟩
set_option maxRecDepth 4000 in
theorem term_step {E : En} (hok : EOK E) {b : Nat → Nat} {n i u : Nat} (hb : HB b n) (hF : CE1 E m_X6_readFactor 4 b n i u 0) (hL : LE1 E m_X6_readTerm 5 b n i u 2) : CE1 E m_X6_readTerm 5 b n i (u + 1) 1 := by
  intro A o p s h ho hsp hp hst hne
  have hn := hb.1
  have h9 : (px b u 0 A o p).1 ≠ 9 := bnd_9 hne
  have pq := px_ok hb u 0 A o p hp
  have pq1 := pq.1
  refine Call.enter hok (by decide) (Nat.le_of_ble_eq_true rfl) ?_
  show G E m_X6_readTerm (3 * (6 - o) + 5) 0 0 _ h 0 [some (vR (6, i)), some (vI (nI o)), none, none, none] [] h 0 0
  refine g_aload_n (pc' := 1) dX6_readTerm_0 rfl rfl ?_
  refine g_iload_n (pc' := 2) dX6_readTerm_1 rfl rfl ?_
  refine g_invV (pc' := 5) (hF A o p s h ho hsp hp hst h9) dX6_readTerm_2 rfl rfl ck_7 rfl ml_X6_108 im_X6_readFactor sl_X6_readFactor in_X6 co_X6_readFactor pd_X6_readFactor rfl (by omega) (by decide) ⟨by decide, by decide⟩ (Nat.le_of_ble_eq_true rfl) ?_
  rintro _ h2 ⟨rfl, q1, q2⟩ -
  rcases Classical.em ((px b u 0 A o p).1 = 0) with e1 | e1
  ·
    obtain ⟨s2, hst2, l1, l2, sc2⟩ := q1 e1
    rw [show bi ((px b u 0 A o p).1 = 0) = nI 1 from bi_t e1]
    refine g_istore_n (pc' := 6) dX6_readTerm_5 rfl (by decide) rfl ?_
    try simp only [List.set]
    refine g_iconstN (n := 0) (pc' := 7) dX6_readTerm_6 rfl ?_
    refine g_istore_n (pc' := 8) dX6_readTerm_7 rfl (by decide) rfl ?_
    try simp only [List.set]
    have eq : px b (u + 1) 1 A o p = px b u 2 (px b u 0 A o p).2.2 o (px b u 0 A o p).2.1 := bnd_t e1
    refine hL (px b u 0 A o p).2.2 o p s (px b u 0 A o p).2.1 s2 0 h h2 h _ ho l1 (by omega) l2 pq.1 (Nat.zero_le _) hst2 sc2 (by rw [← eq]; exact hne) (fun v h3 q => ?_)
    rw [← eq] at q
    exact q
  ·
    have fb := q2 e1
    rw [show bi ((px b u 0 A o p).1 = 0) = nI 0 from bi_f e1]
    refine g_istore_n (pc' := 6) dX6_readTerm_5 rfl (by decide) rfl ?_
    try simp only [List.set]
    refine g_iconstN (n := 0) (pc' := 7) dX6_readTerm_6 rfl ?_
    refine g_istore_n (pc' := 8) dX6_readTerm_7 rfl (by decide) rfl ?_
    try simp only [List.set]
    refine g_iload_n (pc' := 9) dX6_readTerm_8 rfl rfl ?_
    refine g_sipushN (n := 200) (pc' := 12) dX6_readTerm_9 rfl (by decide) ?_
    refine g_icmp_geN (tgt := 81) (pc' := 15) dX6_readTerm_12 rfl (by decide) (by decide) (by decide) (fun q => False.elim (by revert q; decide)) (fun _ => ?_)
    refine g_iload_n (pc' := 16) dX6_readTerm_15 rfl rfl ?_
    refine g_if_eqN (tgt := 81) (pc' := 19) dX6_readTerm_16 rfl (by decide) (by decide) (fun _ => ?_) (fun q => False.elim (by revert q; decide))
    refine g_iload_n (pc' := 82) dX6_readTerm_81 rfl rfl ?_
    refine g_zret dX6_readTerm_82 rfl (by rfl) (by decide) (by decide) ?_
    show PB b n i false p s (px b (u + 1) 1 A o p) h _ _
    rw [px_1, bnd_f e1]
    exact PB.no e1 fb
set_option maxRecDepth 4000 in
theorem tt_step {E : En} (hok : EOK E) {b : Nat → Nat} {n i u : Nat} (hb : HB b n) (hF : CE1 E m_X6_readFactor 4 b n i u 0) (hL : LE1 E m_X6_readTerm 5 b n i u 2) : LE1 E m_X6_readTerm 5 b n i (u + 1) 2 := by
  intro A o p0 s0 p s kk h h1 h0 Q ho hs0 hsp hs1 hp hkk hst sc hne hQ
  have hn := hb.1
  refine g_iload_n (pc' := 9) dX6_readTerm_8 rfl rfl ?_
  refine g_sipushN (n := 200) (pc' := 12) dX6_readTerm_9 rfl (by decide) ?_
  refine g_icmp_geN (tgt := 81) (pc' := 15) dX6_readTerm_12 rfl (by decide) (by omega) (by omega) (fun c12 => ?_) (fun c12 => ?_)
  ·
    refine g_iload_n (pc' := 82) dX6_readTerm_81 rfl rfl ?_
    refine g_zret dX6_readTerm_82 rfl (by rfl) (by decide) (by decide) ?_
    refine hQ _ _ ?_
    have nt : ¬ isTm (b p) := by have := hb.2.2 p (by omega); unfold isTm; omega
    rw [px_2, cif_f nt]
    exact PB.ok rfl ⟨s, hst, hs0, hs1, sc⟩
  ·
    refine g_iload_n (pc' := 16) dX6_readTerm_15 rfl rfl ?_
    refine g_if_eqN (tgt := 81) (pc' := 19) dX6_readTerm_16 rfl (by decide) (by decide) (fun q => False.elim (by revert q; decide)) (fun _ => ?_)
    refine g_aload_n (pc' := 20) dX6_readTerm_19 rfl rfl ?_
    refine g_invV (pc' := 23) (cr_here hok hb hst (by omega)) dX6_readTerm_20 rfl rfl ck_7 rfl ml_X6_66 im_X6_here sl_X6_here in_X6 co_X6_here pd_X6_here rfl (by omega) (by decide) ⟨by decide, by decide⟩ (Nat.le_of_ble_eq_true rfl) ?_
    rintro _ _ ⟨rfl, rfl⟩ -
    refine g_bipushN (n := 42) (pc' := 25) dX6_readTerm_23 rfl (by decide) ?_
    refine g_icmp_eq (tgt := 46) (pc' := 28) dX6_readTerm_25 rfl (by decide) (fun c25 => ?_) (fun c25 => ?_)
    ·
      have tm : isTm (b p) := by
        first
        | exact Or.inl ((hrc_eq hb (by decide) (by decide)).mp c25)
        | exact Or.inr (Or.inl ((hrc_eq hb (by decide) (by decide)).mp c34))
        | exact Or.inr (Or.inr ((hrc_eq hb (by decide) (by decide)).mp c43))
      have ar : isAr (b p) := by unfold isAr; unfold isTm at tm; omega
      have hlt := hb.lt (isTm_ne tm)
      have h9 : (px b u 0 A o (p + 1)).1 ≠ 9 := by
        have q := hne
        rw [px_2, cif_t tm] at q
        exact bnd_9 q
      have pq := px_ok hb u 0 A o (p + 1) (by omega)
      have pq1 := pq.1
      have pr : (px b u 0 A o (p + 1)).1 = 0 → p + 1 ≤ (px b u 0 A o (p + 1)).2.1 := fun e => (pq.2.2 e).1
      refine g_aload_n (pc' := 47) dX6_readTerm_46 rfl rfl ?_
      refine g_invV (pc' := 50) (cr_here hok hb hst (by omega)) dX6_readTerm_47 rfl rfl ck_7 rfl ml_X6_66 im_X6_here sl_X6_here in_X6 co_X6_here pd_X6_here rfl (by omega) (by decide) ⟨by decide, by decide⟩ (Nat.le_of_ble_eq_true rfl) ?_
      rintro _ _ ⟨rfl, rfl⟩ -
      rw [hrc_t hlt]
      refine g_istore (pc' := 52) dX6_readTerm_50 rfl (by decide) rfl ?_
      try simp only [List.set]
      refine g_aload_n (pc' := 53) dX6_readTerm_52 rfl rfl ?_
      refine g_dup (pc' := 54) dX6_readTerm_53 rfl rfl ?_
      refine g_getIv (v := nI (p)) (pc' := 57) (k := 8) dX6_readTerm_54 rfl rfl ck_7 (by decide) fl_X6_43 rfl (hst.2.2.1) ?_
      refine g_iconstN (n := 1) (pc' := 58) dX6_readTerm_57 rfl ?_
      refine g_iaddN (pc' := 59) dX6_readTerm_58 rfl ?_
      refine g_putI (pc' := 62) (k := 8) dX6_readTerm_59 rfl rfl ck_7 (by decide) fl_X6_43 rfl rfl rfl rfl ?_
      refine g_aload_n (pc' := 63) dX6_readTerm_62 rfl rfl ?_
      refine g_iload_n (pc' := 64) dX6_readTerm_63 rfl rfl ?_
      refine g_invV (pc' := 67) (hF A o (p + 1) s _ ho (by omega) (by omega) (ST.re (ST.at (q := p + 1) hst) s) h9) dX6_readTerm_64 rfl rfl ck_7 rfl ml_X6_108 im_X6_readFactor sl_X6_readFactor in_X6 co_X6_readFactor pd_X6_readFactor rfl (by omega) (by decide) ⟨by decide, by decide⟩ (Nat.le_of_ble_eq_true rfl) ?_
      rintro _ h2 ⟨rfl, q1, q2⟩ -
      rcases Classical.em ((px b u 0 A o (p + 1)).1 = 0) with e1 | e1
      ·
        obtain ⟨s2, hst2, l1, l2, sc2⟩ := q1 e1
        rw [show bi ((px b u 0 A o (p + 1)).1 = 0) = nI 1 from bi_t e1]
        refine g_istore_n (pc' := 68) dX6_readTerm_67 rfl (by decide) rfl ?_
        try simp only [List.set]
        refine g_aload_n (pc' := 69) dX6_readTerm_68 rfl rfl ?_
        refine g_iload (pc' := 71) dX6_readTerm_69 rfl rfl ?_
        refine g_iconstN (n := 0) (pc' := 72) dX6_readTerm_71 rfl ?_
        refine g_invV (pc' := 75) (cr_add hok hst2.1.1 hst2.2.2.2 (by omega) _ _) dX6_readTerm_72 rfl rfl ck_7 rfl ml_X6_91 im_X6_addStep sl_X6_addStep in_X6 co_X6_addStep pd_X6_addStep rfl (by omega) (by decide) ⟨by decide, by decide⟩ (Nat.le_of_ble_eq_true rfl) ?_
        rintro _ _ ⟨rfl, rfl⟩ -
        refine g_iincN (k := 1) (pc' := 78) dX6_readTerm_75 rfl rfl (by decide) rfl ?_
        try simp only [List.set]
        refine g_goto (tgt := 8) dX6_readTerm_78 (by decide) ?_
        refine G.drop 4 ?_
        simp only [List.set]
        have eq : px b (u + 1) 2 A o p = px b u 2 (fBin (b p) A (px b u 0 A o (p + 1)).2.2) o (px b u 0 A o (p + 1)).2.1 := by rw [px_2, cif_t tm, bnd_t e1]
        refine hL (fBin (b p) A (px b u 0 A o (p + 1)).2.2) o p0 s0 (px b u 0 A o (p + 1)).2.1 (s2 + 1) (kk + 1) h _ h0 Q ho (by omega) (by omega) (by omega) pq.1 (by omega) (ST.as (c := nI (b p)) (a := nI 0) (ST.tr (ST.at (q := p + 1) hst) hst2 (by omega)) (by omega) (by omega)) (SC.asA (SC.kt (h := wI h1 (6, i) 8 (nI (p + 1))) sc hst2.2.1 (Nat.le_refl s)) sc2 ar (by omega)) (by rw [← eq]; exact hne) (fun v h3 q => hQ v h3 (by rw [eq]; exact q))
      ·
        have fb := q2 e1
        obtain ⟨s2, l1, l2, e9⟩ := fb.2.2.1
        rw [show bi ((px b u 0 A o (p + 1)).1 = 0) = nI 0 from bi_f e1]
        refine g_istore_n (pc' := 68) dX6_readTerm_67 rfl (by decide) rfl ?_
        try simp only [List.set]
        refine g_aload_n (pc' := 69) dX6_readTerm_68 rfl rfl ?_
        refine g_iload (pc' := 71) dX6_readTerm_69 rfl rfl ?_
        refine g_iconstN (n := 0) (pc' := 72) dX6_readTerm_71 rfl ?_
        refine g_invV (pc' := 75) (cr_add hok fb.1.1 e9 l2 _ _) dX6_readTerm_72 rfl rfl ck_7 rfl ml_X6_91 im_X6_addStep sl_X6_addStep in_X6 co_X6_addStep pd_X6_addStep rfl (by omega) (by decide) ⟨by decide, by decide⟩ (Nat.le_of_ble_eq_true rfl) ?_
        rintro _ _ ⟨rfl, rfl⟩ -
        refine g_iincN (k := 1) (pc' := 78) dX6_readTerm_75 rfl rfl (by decide) rfl ?_
        try simp only [List.set]
        refine g_goto (tgt := 8) dX6_readTerm_78 (by decide) ?_
        refine G.drop 4 ?_
        simp only [List.set]
        refine g_iload_n (pc' := 9) dX6_readTerm_8 rfl rfl ?_
        refine g_sipushN (n := 200) (pc' := 12) dX6_readTerm_9 rfl (by decide) ?_
        refine g_icmp_geN (tgt := 81) (pc' := 15) dX6_readTerm_12 rfl (by decide) (by omega) (by omega) (fun c12 => ?_) (fun c12 => ?_)
        ·
          refine g_iload_n (pc' := 82) dX6_readTerm_81 rfl rfl ?_
          refine g_zret dX6_readTerm_82 rfl (by rfl) (by decide) (by decide) ?_
          refine hQ _ _ ?_
          rw [px_2, cif_t tm, bnd_f e1]
          exact PB.no e1 ((FB.tr (ST.at (q := p + 1) hst) fb (by omega)).as (by omega) l2 e9)
        ·
          refine g_iload_n (pc' := 16) dX6_readTerm_15 rfl rfl ?_
          refine g_if_eqN (tgt := 81) (pc' := 19) dX6_readTerm_16 rfl (by decide) (by decide) (fun _ => ?_) (fun q => False.elim (by revert q; decide))
          refine g_iload_n (pc' := 82) dX6_readTerm_81 rfl rfl ?_
          refine g_zret dX6_readTerm_82 rfl (by rfl) (by decide) (by decide) ?_
          refine hQ _ _ ?_
          rw [px_2, cif_t tm, bnd_f e1]
          exact PB.no e1 ((FB.tr (ST.at (q := p + 1) hst) fb (by omega)).as (by omega) l2 e9)
    ·
      refine g_aload_n (pc' := 29) dX6_readTerm_28 rfl rfl ?_
      refine g_invV (pc' := 32) (cr_here hok hb hst (by omega)) dX6_readTerm_29 rfl rfl ck_7 rfl ml_X6_66 im_X6_here sl_X6_here in_X6 co_X6_here pd_X6_here rfl (by omega) (by decide) ⟨by decide, by decide⟩ (Nat.le_of_ble_eq_true rfl) ?_
      rintro _ _ ⟨rfl, rfl⟩ -
      refine g_bipushN (n := 47) (pc' := 34) dX6_readTerm_32 rfl (by decide) ?_
      refine g_icmp_eq (tgt := 46) (pc' := 37) dX6_readTerm_34 rfl (by decide) (fun c34 => ?_) (fun c34 => ?_)
      ·
        have tm : isTm (b p) := by
          first
          | exact Or.inl ((hrc_eq hb (by decide) (by decide)).mp c25)
          | exact Or.inr (Or.inl ((hrc_eq hb (by decide) (by decide)).mp c34))
          | exact Or.inr (Or.inr ((hrc_eq hb (by decide) (by decide)).mp c43))
        have ar : isAr (b p) := by unfold isAr; unfold isTm at tm; omega
        have hlt := hb.lt (isTm_ne tm)
        have h9 : (px b u 0 A o (p + 1)).1 ≠ 9 := by
          have q := hne
          rw [px_2, cif_t tm] at q
          exact bnd_9 q
        have pq := px_ok hb u 0 A o (p + 1) (by omega)
        have pq1 := pq.1
        have pr : (px b u 0 A o (p + 1)).1 = 0 → p + 1 ≤ (px b u 0 A o (p + 1)).2.1 := fun e => (pq.2.2 e).1
        refine g_aload_n (pc' := 47) dX6_readTerm_46 rfl rfl ?_
        refine g_invV (pc' := 50) (cr_here hok hb hst (by omega)) dX6_readTerm_47 rfl rfl ck_7 rfl ml_X6_66 im_X6_here sl_X6_here in_X6 co_X6_here pd_X6_here rfl (by omega) (by decide) ⟨by decide, by decide⟩ (Nat.le_of_ble_eq_true rfl) ?_
        rintro _ _ ⟨rfl, rfl⟩ -
        rw [hrc_t hlt]
        refine g_istore (pc' := 52) dX6_readTerm_50 rfl (by decide) rfl ?_
        try simp only [List.set]
        refine g_aload_n (pc' := 53) dX6_readTerm_52 rfl rfl ?_
        refine g_dup (pc' := 54) dX6_readTerm_53 rfl rfl ?_
        refine g_getIv (v := nI (p)) (pc' := 57) (k := 8) dX6_readTerm_54 rfl rfl ck_7 (by decide) fl_X6_43 rfl (hst.2.2.1) ?_
        refine g_iconstN (n := 1) (pc' := 58) dX6_readTerm_57 rfl ?_
        refine g_iaddN (pc' := 59) dX6_readTerm_58 rfl ?_
        refine g_putI (pc' := 62) (k := 8) dX6_readTerm_59 rfl rfl ck_7 (by decide) fl_X6_43 rfl rfl rfl rfl ?_
        refine g_aload_n (pc' := 63) dX6_readTerm_62 rfl rfl ?_
        refine g_iload_n (pc' := 64) dX6_readTerm_63 rfl rfl ?_
        refine g_invV (pc' := 67) (hF A o (p + 1) s _ ho (by omega) (by omega) (ST.re (ST.at (q := p + 1) hst) s) h9) dX6_readTerm_64 rfl rfl ck_7 rfl ml_X6_108 im_X6_readFactor sl_X6_readFactor in_X6 co_X6_readFactor pd_X6_readFactor rfl (by omega) (by decide) ⟨by decide, by decide⟩ (Nat.le_of_ble_eq_true rfl) ?_
        rintro _ h2 ⟨rfl, q1, q2⟩ -
        rcases Classical.em ((px b u 0 A o (p + 1)).1 = 0) with e1 | e1
        ·
          obtain ⟨s2, hst2, l1, l2, sc2⟩ := q1 e1
          rw [show bi ((px b u 0 A o (p + 1)).1 = 0) = nI 1 from bi_t e1]
          refine g_istore_n (pc' := 68) dX6_readTerm_67 rfl (by decide) rfl ?_
          try simp only [List.set]
          refine g_aload_n (pc' := 69) dX6_readTerm_68 rfl rfl ?_
          refine g_iload (pc' := 71) dX6_readTerm_69 rfl rfl ?_
          refine g_iconstN (n := 0) (pc' := 72) dX6_readTerm_71 rfl ?_
          refine g_invV (pc' := 75) (cr_add hok hst2.1.1 hst2.2.2.2 (by omega) _ _) dX6_readTerm_72 rfl rfl ck_7 rfl ml_X6_91 im_X6_addStep sl_X6_addStep in_X6 co_X6_addStep pd_X6_addStep rfl (by omega) (by decide) ⟨by decide, by decide⟩ (Nat.le_of_ble_eq_true rfl) ?_
          rintro _ _ ⟨rfl, rfl⟩ -
          refine g_iincN (k := 1) (pc' := 78) dX6_readTerm_75 rfl rfl (by decide) rfl ?_
          try simp only [List.set]
          refine g_goto (tgt := 8) dX6_readTerm_78 (by decide) ?_
          refine G.drop 4 ?_
          simp only [List.set]
          have eq : px b (u + 1) 2 A o p = px b u 2 (fBin (b p) A (px b u 0 A o (p + 1)).2.2) o (px b u 0 A o (p + 1)).2.1 := by rw [px_2, cif_t tm, bnd_t e1]
          refine hL (fBin (b p) A (px b u 0 A o (p + 1)).2.2) o p0 s0 (px b u 0 A o (p + 1)).2.1 (s2 + 1) (kk + 1) h _ h0 Q ho (by omega) (by omega) (by omega) pq.1 (by omega) (ST.as (c := nI (b p)) (a := nI 0) (ST.tr (ST.at (q := p + 1) hst) hst2 (by omega)) (by omega) (by omega)) (SC.asA (SC.kt (h := wI h1 (6, i) 8 (nI (p + 1))) sc hst2.2.1 (Nat.le_refl s)) sc2 ar (by omega)) (by rw [← eq]; exact hne) (fun v h3 q => hQ v h3 (by rw [eq]; exact q))
        ·
          have fb := q2 e1
          obtain ⟨s2, l1, l2, e9⟩ := fb.2.2.1
          rw [show bi ((px b u 0 A o (p + 1)).1 = 0) = nI 0 from bi_f e1]
          refine g_istore_n (pc' := 68) dX6_readTerm_67 rfl (by decide) rfl ?_
          try simp only [List.set]
          refine g_aload_n (pc' := 69) dX6_readTerm_68 rfl rfl ?_
          refine g_iload (pc' := 71) dX6_readTerm_69 rfl rfl ?_
          refine g_iconstN (n := 0) (pc' := 72) dX6_readTerm_71 rfl ?_
          refine g_invV (pc' := 75) (cr_add hok fb.1.1 e9 l2 _ _) dX6_readTerm_72 rfl rfl ck_7 rfl ml_X6_91 im_X6_addStep sl_X6_addStep in_X6 co_X6_addStep pd_X6_addStep rfl (by omega) (by decide) ⟨by decide, by decide⟩ (Nat.le_of_ble_eq_true rfl) ?_
          rintro _ _ ⟨rfl, rfl⟩ -
          refine g_iincN (k := 1) (pc' := 78) dX6_readTerm_75 rfl rfl (by decide) rfl ?_
          try simp only [List.set]
          refine g_goto (tgt := 8) dX6_readTerm_78 (by decide) ?_
          refine G.drop 4 ?_
          simp only [List.set]
          refine g_iload_n (pc' := 9) dX6_readTerm_8 rfl rfl ?_
          refine g_sipushN (n := 200) (pc' := 12) dX6_readTerm_9 rfl (by decide) ?_
          refine g_icmp_geN (tgt := 81) (pc' := 15) dX6_readTerm_12 rfl (by decide) (by omega) (by omega) (fun c12 => ?_) (fun c12 => ?_)
          ·
            refine g_iload_n (pc' := 82) dX6_readTerm_81 rfl rfl ?_
            refine g_zret dX6_readTerm_82 rfl (by rfl) (by decide) (by decide) ?_
            refine hQ _ _ ?_
            rw [px_2, cif_t tm, bnd_f e1]
            exact PB.no e1 ((FB.tr (ST.at (q := p + 1) hst) fb (by omega)).as (by omega) l2 e9)
          ·
            refine g_iload_n (pc' := 16) dX6_readTerm_15 rfl rfl ?_
            refine g_if_eqN (tgt := 81) (pc' := 19) dX6_readTerm_16 rfl (by decide) (by decide) (fun _ => ?_) (fun q => False.elim (by revert q; decide))
            refine g_iload_n (pc' := 82) dX6_readTerm_81 rfl rfl ?_
            refine g_zret dX6_readTerm_82 rfl (by rfl) (by decide) (by decide) ?_
            refine hQ _ _ ?_
            rw [px_2, cif_t tm, bnd_f e1]
            exact PB.no e1 ((FB.tr (ST.at (q := p + 1) hst) fb (by omega)).as (by omega) l2 e9)
      ·
        refine g_aload_n (pc' := 38) dX6_readTerm_37 rfl rfl ?_
        refine g_invV (pc' := 41) (cr_here hok hb hst (by omega)) dX6_readTerm_38 rfl rfl ck_7 rfl ml_X6_66 im_X6_here sl_X6_here in_X6 co_X6_here pd_X6_here rfl (by omega) (by decide) ⟨by decide, by decide⟩ (Nat.le_of_ble_eq_true rfl) ?_
        rintro _ _ ⟨rfl, rfl⟩ -
        refine g_bipushN (n := 37) (pc' := 43) dX6_readTerm_41 rfl (by decide) ?_
        refine g_icmp_ne (tgt := 81) (pc' := 46) dX6_readTerm_43 rfl (by decide) (fun c43 => ?_) (fun c43 => ?_)
        ·
          refine g_iload_n (pc' := 82) dX6_readTerm_81 rfl rfl ?_
          refine g_zret dX6_readTerm_82 rfl (by rfl) (by decide) (by decide) ?_
          refine hQ _ _ ?_
          have nt : ¬ isTm (b p) := fun z => by rcases z with z | z | z <;> first | exact c25 ((hrc_eq hb (by decide) (by decide)).mpr z) | exact c34 ((hrc_eq hb (by decide) (by decide)).mpr z) | exact c43 ((hrc_eq hb (by decide) (by decide)).mpr z)
          rw [px_2, cif_f nt]
          exact PB.ok rfl ⟨s, hst, hs0, hs1, sc⟩
        ·
          have tm : isTm (b p) := by
            first
            | exact Or.inl ((hrc_eq hb (by decide) (by decide)).mp c25)
            | exact Or.inr (Or.inl ((hrc_eq hb (by decide) (by decide)).mp c34))
            | exact Or.inr (Or.inr ((hrc_eq hb (by decide) (by decide)).mp c43))
          have ar : isAr (b p) := by unfold isAr; unfold isTm at tm; omega
          have hlt := hb.lt (isTm_ne tm)
          have h9 : (px b u 0 A o (p + 1)).1 ≠ 9 := by
            have q := hne
            rw [px_2, cif_t tm] at q
            exact bnd_9 q
          have pq := px_ok hb u 0 A o (p + 1) (by omega)
          have pq1 := pq.1
          have pr : (px b u 0 A o (p + 1)).1 = 0 → p + 1 ≤ (px b u 0 A o (p + 1)).2.1 := fun e => (pq.2.2 e).1
          refine g_aload_n (pc' := 47) dX6_readTerm_46 rfl rfl ?_
          refine g_invV (pc' := 50) (cr_here hok hb hst (by omega)) dX6_readTerm_47 rfl rfl ck_7 rfl ml_X6_66 im_X6_here sl_X6_here in_X6 co_X6_here pd_X6_here rfl (by omega) (by decide) ⟨by decide, by decide⟩ (Nat.le_of_ble_eq_true rfl) ?_
          rintro _ _ ⟨rfl, rfl⟩ -
          rw [hrc_t hlt]
          refine g_istore (pc' := 52) dX6_readTerm_50 rfl (by decide) rfl ?_
          try simp only [List.set]
          refine g_aload_n (pc' := 53) dX6_readTerm_52 rfl rfl ?_
          refine g_dup (pc' := 54) dX6_readTerm_53 rfl rfl ?_
          refine g_getIv (v := nI (p)) (pc' := 57) (k := 8) dX6_readTerm_54 rfl rfl ck_7 (by decide) fl_X6_43 rfl (hst.2.2.1) ?_
          refine g_iconstN (n := 1) (pc' := 58) dX6_readTerm_57 rfl ?_
          refine g_iaddN (pc' := 59) dX6_readTerm_58 rfl ?_
          refine g_putI (pc' := 62) (k := 8) dX6_readTerm_59 rfl rfl ck_7 (by decide) fl_X6_43 rfl rfl rfl rfl ?_
          refine g_aload_n (pc' := 63) dX6_readTerm_62 rfl rfl ?_
          refine g_iload_n (pc' := 64) dX6_readTerm_63 rfl rfl ?_
          refine g_invV (pc' := 67) (hF A o (p + 1) s _ ho (by omega) (by omega) (ST.re (ST.at (q := p + 1) hst) s) h9) dX6_readTerm_64 rfl rfl ck_7 rfl ml_X6_108 im_X6_readFactor sl_X6_readFactor in_X6 co_X6_readFactor pd_X6_readFactor rfl (by omega) (by decide) ⟨by decide, by decide⟩ (Nat.le_of_ble_eq_true rfl) ?_
          rintro _ h2 ⟨rfl, q1, q2⟩ -
          rcases Classical.em ((px b u 0 A o (p + 1)).1 = 0) with e1 | e1
          ·
            obtain ⟨s2, hst2, l1, l2, sc2⟩ := q1 e1
            rw [show bi ((px b u 0 A o (p + 1)).1 = 0) = nI 1 from bi_t e1]
            refine g_istore_n (pc' := 68) dX6_readTerm_67 rfl (by decide) rfl ?_
            try simp only [List.set]
            refine g_aload_n (pc' := 69) dX6_readTerm_68 rfl rfl ?_
            refine g_iload (pc' := 71) dX6_readTerm_69 rfl rfl ?_
            refine g_iconstN (n := 0) (pc' := 72) dX6_readTerm_71 rfl ?_
            refine g_invV (pc' := 75) (cr_add hok hst2.1.1 hst2.2.2.2 (by omega) _ _) dX6_readTerm_72 rfl rfl ck_7 rfl ml_X6_91 im_X6_addStep sl_X6_addStep in_X6 co_X6_addStep pd_X6_addStep rfl (by omega) (by decide) ⟨by decide, by decide⟩ (Nat.le_of_ble_eq_true rfl) ?_
            rintro _ _ ⟨rfl, rfl⟩ -
            refine g_iincN (k := 1) (pc' := 78) dX6_readTerm_75 rfl rfl (by decide) rfl ?_
            try simp only [List.set]
            refine g_goto (tgt := 8) dX6_readTerm_78 (by decide) ?_
            refine G.drop 4 ?_
            simp only [List.set]
            have eq : px b (u + 1) 2 A o p = px b u 2 (fBin (b p) A (px b u 0 A o (p + 1)).2.2) o (px b u 0 A o (p + 1)).2.1 := by rw [px_2, cif_t tm, bnd_t e1]
            refine hL (fBin (b p) A (px b u 0 A o (p + 1)).2.2) o p0 s0 (px b u 0 A o (p + 1)).2.1 (s2 + 1) (kk + 1) h _ h0 Q ho (by omega) (by omega) (by omega) pq.1 (by omega) (ST.as (c := nI (b p)) (a := nI 0) (ST.tr (ST.at (q := p + 1) hst) hst2 (by omega)) (by omega) (by omega)) (SC.asA (SC.kt (h := wI h1 (6, i) 8 (nI (p + 1))) sc hst2.2.1 (Nat.le_refl s)) sc2 ar (by omega)) (by rw [← eq]; exact hne) (fun v h3 q => hQ v h3 (by rw [eq]; exact q))
          ·
            have fb := q2 e1
            obtain ⟨s2, l1, l2, e9⟩ := fb.2.2.1
            rw [show bi ((px b u 0 A o (p + 1)).1 = 0) = nI 0 from bi_f e1]
            refine g_istore_n (pc' := 68) dX6_readTerm_67 rfl (by decide) rfl ?_
            try simp only [List.set]
            refine g_aload_n (pc' := 69) dX6_readTerm_68 rfl rfl ?_
            refine g_iload (pc' := 71) dX6_readTerm_69 rfl rfl ?_
            refine g_iconstN (n := 0) (pc' := 72) dX6_readTerm_71 rfl ?_
            refine g_invV (pc' := 75) (cr_add hok fb.1.1 e9 l2 _ _) dX6_readTerm_72 rfl rfl ck_7 rfl ml_X6_91 im_X6_addStep sl_X6_addStep in_X6 co_X6_addStep pd_X6_addStep rfl (by omega) (by decide) ⟨by decide, by decide⟩ (Nat.le_of_ble_eq_true rfl) ?_
            rintro _ _ ⟨rfl, rfl⟩ -
            refine g_iincN (k := 1) (pc' := 78) dX6_readTerm_75 rfl rfl (by decide) rfl ?_
            try simp only [List.set]
            refine g_goto (tgt := 8) dX6_readTerm_78 (by decide) ?_
            refine G.drop 4 ?_
            simp only [List.set]
            refine g_iload_n (pc' := 9) dX6_readTerm_8 rfl rfl ?_
            refine g_sipushN (n := 200) (pc' := 12) dX6_readTerm_9 rfl (by decide) ?_
            refine g_icmp_geN (tgt := 81) (pc' := 15) dX6_readTerm_12 rfl (by decide) (by omega) (by omega) (fun c12 => ?_) (fun c12 => ?_)
            ·
              refine g_iload_n (pc' := 82) dX6_readTerm_81 rfl rfl ?_
              refine g_zret dX6_readTerm_82 rfl (by rfl) (by decide) (by decide) ?_
              refine hQ _ _ ?_
              rw [px_2, cif_t tm, bnd_f e1]
              exact PB.no e1 ((FB.tr (ST.at (q := p + 1) hst) fb (by omega)).as (by omega) l2 e9)
            ·
              refine g_iload_n (pc' := 16) dX6_readTerm_15 rfl rfl ?_
              refine g_if_eqN (tgt := 81) (pc' := 19) dX6_readTerm_16 rfl (by decide) (by decide) (fun _ => ?_) (fun q => False.elim (by revert q; decide))
              refine g_iload_n (pc' := 82) dX6_readTerm_81 rfl rfl ?_
              refine g_zret dX6_readTerm_82 rfl (by rfl) (by decide) (by decide) ?_
              refine hQ _ _ ?_
              rw [px_2, cif_t tm, bnd_f e1]
              exact PB.no e1 ((FB.tr (ST.at (q := p + 1) hst) fb (by omega)).as (by omega) l2 e9)
set_option maxRecDepth 4000 in
theorem expr_step {E : En} (hok : EOK E) {b : Nat → Nat} {n i u : Nat} (hb : HB b n) (hF : CE1 E m_X6_readTerm 5 b n i u 1) (hL : LE1 E m_X6_readExpression 6 b n i u 4) : CE1 E m_X6_readExpression 6 b n i (u + 1) 3 := by
  intro A o p s h ho hsp hp hst hne
  have hn := hb.1
  have h9 : (px b u 1 A o p).1 ≠ 9 := bnd_9 hne
  have pq := px_ok hb u 1 A o p hp
  have pq1 := pq.1
  refine Call.enter hok (by decide) (Nat.le_of_ble_eq_true rfl) ?_
  show G E m_X6_readExpression (3 * (6 - o) + 6) 0 0 _ h 0 [some (vR (6, i)), some (vI (nI o)), none, none, none] [] h 0 0
  refine g_aload_n (pc' := 1) dX6_readExpression_0 rfl rfl ?_
  refine g_iload_n (pc' := 2) dX6_readExpression_1 rfl rfl ?_
  refine g_invV (pc' := 5) (hF A o p s h ho hsp hp hst h9) dX6_readExpression_2 rfl rfl ck_7 rfl ml_X6_105 im_X6_readTerm sl_X6_readTerm in_X6 co_X6_readTerm pd_X6_readTerm rfl (by omega) (by decide) ⟨by decide, by decide⟩ (Nat.le_of_ble_eq_true rfl) ?_
  rintro _ h2 ⟨rfl, q1, q2⟩ -
  rcases Classical.em ((px b u 1 A o p).1 = 0) with e1 | e1
  ·
    obtain ⟨s2, hst2, l1, l2, sc2⟩ := q1 e1
    rw [show bi ((px b u 1 A o p).1 = 0) = nI 1 from bi_t e1]
    refine g_istore_n (pc' := 6) dX6_readExpression_5 rfl (by decide) rfl ?_
    try simp only [List.set]
    refine g_iconstN (n := 0) (pc' := 7) dX6_readExpression_6 rfl ?_
    refine g_istore_n (pc' := 8) dX6_readExpression_7 rfl (by decide) rfl ?_
    try simp only [List.set]
    have eq : px b (u + 1) 3 A o p = px b u 4 (px b u 1 A o p).2.2 o (px b u 1 A o p).2.1 := bnd_t e1
    refine hL (px b u 1 A o p).2.2 o p s (px b u 1 A o p).2.1 s2 0 h h2 h _ ho l1 (by omega) l2 pq.1 (Nat.zero_le _) hst2 sc2 (by rw [← eq]; exact hne) (fun v h3 q => ?_)
    rw [← eq] at q
    exact q
  ·
    have fb := q2 e1
    rw [show bi ((px b u 1 A o p).1 = 0) = nI 0 from bi_f e1]
    refine g_istore_n (pc' := 6) dX6_readExpression_5 rfl (by decide) rfl ?_
    try simp only [List.set]
    refine g_iconstN (n := 0) (pc' := 7) dX6_readExpression_6 rfl ?_
    refine g_istore_n (pc' := 8) dX6_readExpression_7 rfl (by decide) rfl ?_
    try simp only [List.set]
    refine g_iload_n (pc' := 9) dX6_readExpression_8 rfl rfl ?_
    refine g_sipushN (n := 200) (pc' := 12) dX6_readExpression_9 rfl (by decide) ?_
    refine g_icmp_geN (tgt := 72) (pc' := 15) dX6_readExpression_12 rfl (by decide) (by decide) (by decide) (fun q => False.elim (by revert q; decide)) (fun _ => ?_)
    refine g_iload_n (pc' := 16) dX6_readExpression_15 rfl rfl ?_
    refine g_if_eqN (tgt := 72) (pc' := 19) dX6_readExpression_16 rfl (by decide) (by decide) (fun _ => ?_) (fun q => False.elim (by revert q; decide))
    refine g_iload_n (pc' := 73) dX6_readExpression_72 rfl rfl ?_
    refine g_zret dX6_readExpression_73 rfl (by rfl) (by decide) (by decide) ?_
    show PB b n i false p s (px b (u + 1) 3 A o p) h _ _
    rw [px_3, bnd_f e1]
    exact PB.no e1 fb
set_option maxRecDepth 4000 in
theorem et_step {E : En} (hok : EOK E) {b : Nat → Nat} {n i u : Nat} (hb : HB b n) (hF : CE1 E m_X6_readTerm 5 b n i u 1) (hL : LE1 E m_X6_readExpression 6 b n i u 4) : LE1 E m_X6_readExpression 6 b n i (u + 1) 4 := by
  intro A o p0 s0 p s kk h h1 h0 Q ho hs0 hsp hs1 hp hkk hst sc hne hQ
  have hn := hb.1
  refine g_iload_n (pc' := 9) dX6_readExpression_8 rfl rfl ?_
  refine g_sipushN (n := 200) (pc' := 12) dX6_readExpression_9 rfl (by decide) ?_
  refine g_icmp_geN (tgt := 72) (pc' := 15) dX6_readExpression_12 rfl (by decide) (by omega) (by omega) (fun c12 => ?_) (fun c12 => ?_)
  ·
    refine g_iload_n (pc' := 73) dX6_readExpression_72 rfl rfl ?_
    refine g_zret dX6_readExpression_73 rfl (by rfl) (by decide) (by decide) ?_
    refine hQ _ _ ?_
    have nt : ¬ isPl (b p) := by have := hb.2.2 p (by omega); unfold isPl; omega
    rw [px_4, cif_f nt]
    exact PB.ok rfl ⟨s, hst, hs0, hs1, sc⟩
  ·
    refine g_iload_n (pc' := 16) dX6_readExpression_15 rfl rfl ?_
    refine g_if_eqN (tgt := 72) (pc' := 19) dX6_readExpression_16 rfl (by decide) (by decide) (fun q => False.elim (by revert q; decide)) (fun _ => ?_)
    refine g_aload_n (pc' := 20) dX6_readExpression_19 rfl rfl ?_
    refine g_invV (pc' := 23) (cr_here hok hb hst (by omega)) dX6_readExpression_20 rfl rfl ck_7 rfl ml_X6_66 im_X6_here sl_X6_here in_X6 co_X6_here pd_X6_here rfl (by omega) (by decide) ⟨by decide, by decide⟩ (Nat.le_of_ble_eq_true rfl) ?_
    rintro _ _ ⟨rfl, rfl⟩ -
    refine g_bipushN (n := 43) (pc' := 25) dX6_readExpression_23 rfl (by decide) ?_
    refine g_icmp_eq (tgt := 37) (pc' := 28) dX6_readExpression_25 rfl (by decide) (fun c25 => ?_) (fun c25 => ?_)
    ·
      have tm : isPl (b p) := by
        first
        | exact Or.inl ((hrc_eq hb (by decide) (by decide)).mp c25)
        | exact Or.inr ((hrc_eq hb (by decide) (by decide)).mp c34)
      have ar : isAr (b p) := by unfold isAr; unfold isPl at tm; omega
      have hlt := hb.lt (isPl_ne tm)
      have h9 : (px b u 1 A o (p + 1)).1 ≠ 9 := by
        have q := hne
        rw [px_4, cif_t tm] at q
        exact bnd_9 q
      have pq := px_ok hb u 1 A o (p + 1) (by omega)
      have pq1 := pq.1
      have pr : (px b u 1 A o (p + 1)).1 = 0 → p + 1 ≤ (px b u 1 A o (p + 1)).2.1 := fun e => (pq.2.2 e).1
      refine g_aload_n (pc' := 38) dX6_readExpression_37 rfl rfl ?_
      refine g_invV (pc' := 41) (cr_here hok hb hst (by omega)) dX6_readExpression_38 rfl rfl ck_7 rfl ml_X6_66 im_X6_here sl_X6_here in_X6 co_X6_here pd_X6_here rfl (by omega) (by decide) ⟨by decide, by decide⟩ (Nat.le_of_ble_eq_true rfl) ?_
      rintro _ _ ⟨rfl, rfl⟩ -
      rw [hrc_t hlt]
      refine g_istore (pc' := 43) dX6_readExpression_41 rfl (by decide) rfl ?_
      try simp only [List.set]
      refine g_aload_n (pc' := 44) dX6_readExpression_43 rfl rfl ?_
      refine g_dup (pc' := 45) dX6_readExpression_44 rfl rfl ?_
      refine g_getIv (v := nI (p)) (pc' := 48) (k := 8) dX6_readExpression_45 rfl rfl ck_7 (by decide) fl_X6_43 rfl (hst.2.2.1) ?_
      refine g_iconstN (n := 1) (pc' := 49) dX6_readExpression_48 rfl ?_
      refine g_iaddN (pc' := 50) dX6_readExpression_49 rfl ?_
      refine g_putI (pc' := 53) (k := 8) dX6_readExpression_50 rfl rfl ck_7 (by decide) fl_X6_43 rfl rfl rfl rfl ?_
      refine g_aload_n (pc' := 54) dX6_readExpression_53 rfl rfl ?_
      refine g_iload_n (pc' := 55) dX6_readExpression_54 rfl rfl ?_
      refine g_invV (pc' := 58) (hF A o (p + 1) s _ ho (by omega) (by omega) (ST.re (ST.at (q := p + 1) hst) s) h9) dX6_readExpression_55 rfl rfl ck_7 rfl ml_X6_105 im_X6_readTerm sl_X6_readTerm in_X6 co_X6_readTerm pd_X6_readTerm rfl (by omega) (by decide) ⟨by decide, by decide⟩ (Nat.le_of_ble_eq_true rfl) ?_
      rintro _ h2 ⟨rfl, q1, q2⟩ -
      rcases Classical.em ((px b u 1 A o (p + 1)).1 = 0) with e1 | e1
      ·
        obtain ⟨s2, hst2, l1, l2, sc2⟩ := q1 e1
        rw [show bi ((px b u 1 A o (p + 1)).1 = 0) = nI 1 from bi_t e1]
        refine g_istore_n (pc' := 59) dX6_readExpression_58 rfl (by decide) rfl ?_
        try simp only [List.set]
        refine g_aload_n (pc' := 60) dX6_readExpression_59 rfl rfl ?_
        refine g_iload (pc' := 62) dX6_readExpression_60 rfl rfl ?_
        refine g_iconstN (n := 0) (pc' := 63) dX6_readExpression_62 rfl ?_
        refine g_invV (pc' := 66) (cr_add hok hst2.1.1 hst2.2.2.2 (by omega) _ _) dX6_readExpression_63 rfl rfl ck_7 rfl ml_X6_91 im_X6_addStep sl_X6_addStep in_X6 co_X6_addStep pd_X6_addStep rfl (by omega) (by decide) ⟨by decide, by decide⟩ (Nat.le_of_ble_eq_true rfl) ?_
        rintro _ _ ⟨rfl, rfl⟩ -
        refine g_iincN (k := 1) (pc' := 69) dX6_readExpression_66 rfl rfl (by decide) rfl ?_
        try simp only [List.set]
        refine g_goto (tgt := 8) dX6_readExpression_69 (by decide) ?_
        refine G.drop 4 ?_
        simp only [List.set]
        have eq : px b (u + 1) 4 A o p = px b u 4 (fBin (b p) A (px b u 1 A o (p + 1)).2.2) o (px b u 1 A o (p + 1)).2.1 := by rw [px_4, cif_t tm, bnd_t e1]
        refine hL (fBin (b p) A (px b u 1 A o (p + 1)).2.2) o p0 s0 (px b u 1 A o (p + 1)).2.1 (s2 + 1) (kk + 1) h _ h0 Q ho (by omega) (by omega) (by omega) pq.1 (by omega) (ST.as (c := nI (b p)) (a := nI 0) (ST.tr (ST.at (q := p + 1) hst) hst2 (by omega)) (by omega) (by omega)) (SC.asA (SC.kt (h := wI h1 (6, i) 8 (nI (p + 1))) sc hst2.2.1 (Nat.le_refl s)) sc2 ar (by omega)) (by rw [← eq]; exact hne) (fun v h3 q => hQ v h3 (by rw [eq]; exact q))
      ·
        have fb := q2 e1
        obtain ⟨s2, l1, l2, e9⟩ := fb.2.2.1
        rw [show bi ((px b u 1 A o (p + 1)).1 = 0) = nI 0 from bi_f e1]
        refine g_istore_n (pc' := 59) dX6_readExpression_58 rfl (by decide) rfl ?_
        try simp only [List.set]
        refine g_aload_n (pc' := 60) dX6_readExpression_59 rfl rfl ?_
        refine g_iload (pc' := 62) dX6_readExpression_60 rfl rfl ?_
        refine g_iconstN (n := 0) (pc' := 63) dX6_readExpression_62 rfl ?_
        refine g_invV (pc' := 66) (cr_add hok fb.1.1 e9 l2 _ _) dX6_readExpression_63 rfl rfl ck_7 rfl ml_X6_91 im_X6_addStep sl_X6_addStep in_X6 co_X6_addStep pd_X6_addStep rfl (by omega) (by decide) ⟨by decide, by decide⟩ (Nat.le_of_ble_eq_true rfl) ?_
        rintro _ _ ⟨rfl, rfl⟩ -
        refine g_iincN (k := 1) (pc' := 69) dX6_readExpression_66 rfl rfl (by decide) rfl ?_
        try simp only [List.set]
        refine g_goto (tgt := 8) dX6_readExpression_69 (by decide) ?_
        refine G.drop 4 ?_
        simp only [List.set]
        refine g_iload_n (pc' := 9) dX6_readExpression_8 rfl rfl ?_
        refine g_sipushN (n := 200) (pc' := 12) dX6_readExpression_9 rfl (by decide) ?_
        refine g_icmp_geN (tgt := 72) (pc' := 15) dX6_readExpression_12 rfl (by decide) (by omega) (by omega) (fun c12 => ?_) (fun c12 => ?_)
        ·
          refine g_iload_n (pc' := 73) dX6_readExpression_72 rfl rfl ?_
          refine g_zret dX6_readExpression_73 rfl (by rfl) (by decide) (by decide) ?_
          refine hQ _ _ ?_
          rw [px_4, cif_t tm, bnd_f e1]
          exact PB.no e1 ((FB.tr (ST.at (q := p + 1) hst) fb (by omega)).as (by omega) l2 e9)
        ·
          refine g_iload_n (pc' := 16) dX6_readExpression_15 rfl rfl ?_
          refine g_if_eqN (tgt := 72) (pc' := 19) dX6_readExpression_16 rfl (by decide) (by decide) (fun _ => ?_) (fun q => False.elim (by revert q; decide))
          refine g_iload_n (pc' := 73) dX6_readExpression_72 rfl rfl ?_
          refine g_zret dX6_readExpression_73 rfl (by rfl) (by decide) (by decide) ?_
          refine hQ _ _ ?_
          rw [px_4, cif_t tm, bnd_f e1]
          exact PB.no e1 ((FB.tr (ST.at (q := p + 1) hst) fb (by omega)).as (by omega) l2 e9)
    ·
      refine g_aload_n (pc' := 29) dX6_readExpression_28 rfl rfl ?_
      refine g_invV (pc' := 32) (cr_here hok hb hst (by omega)) dX6_readExpression_29 rfl rfl ck_7 rfl ml_X6_66 im_X6_here sl_X6_here in_X6 co_X6_here pd_X6_here rfl (by omega) (by decide) ⟨by decide, by decide⟩ (Nat.le_of_ble_eq_true rfl) ?_
      rintro _ _ ⟨rfl, rfl⟩ -
      refine g_bipushN (n := 45) (pc' := 34) dX6_readExpression_32 rfl (by decide) ?_
      refine g_icmp_ne (tgt := 72) (pc' := 37) dX6_readExpression_34 rfl (by decide) (fun c34 => ?_) (fun c34 => ?_)
      ·
        refine g_iload_n (pc' := 73) dX6_readExpression_72 rfl rfl ?_
        refine g_zret dX6_readExpression_73 rfl (by rfl) (by decide) (by decide) ?_
        refine hQ _ _ ?_
        have nt : ¬ isPl (b p) := fun z => by rcases z with z | z <;> first | exact c25 ((hrc_eq hb (by decide) (by decide)).mpr z) | exact c34 ((hrc_eq hb (by decide) (by decide)).mpr z)
        rw [px_4, cif_f nt]
        exact PB.ok rfl ⟨s, hst, hs0, hs1, sc⟩
      ·
        have tm : isPl (b p) := by
          first
          | exact Or.inl ((hrc_eq hb (by decide) (by decide)).mp c25)
          | exact Or.inr ((hrc_eq hb (by decide) (by decide)).mp c34)
        have ar : isAr (b p) := by unfold isAr; unfold isPl at tm; omega
        have hlt := hb.lt (isPl_ne tm)
        have h9 : (px b u 1 A o (p + 1)).1 ≠ 9 := by
          have q := hne
          rw [px_4, cif_t tm] at q
          exact bnd_9 q
        have pq := px_ok hb u 1 A o (p + 1) (by omega)
        have pq1 := pq.1
        have pr : (px b u 1 A o (p + 1)).1 = 0 → p + 1 ≤ (px b u 1 A o (p + 1)).2.1 := fun e => (pq.2.2 e).1
        refine g_aload_n (pc' := 38) dX6_readExpression_37 rfl rfl ?_
        refine g_invV (pc' := 41) (cr_here hok hb hst (by omega)) dX6_readExpression_38 rfl rfl ck_7 rfl ml_X6_66 im_X6_here sl_X6_here in_X6 co_X6_here pd_X6_here rfl (by omega) (by decide) ⟨by decide, by decide⟩ (Nat.le_of_ble_eq_true rfl) ?_
        rintro _ _ ⟨rfl, rfl⟩ -
        rw [hrc_t hlt]
        refine g_istore (pc' := 43) dX6_readExpression_41 rfl (by decide) rfl ?_
        try simp only [List.set]
        refine g_aload_n (pc' := 44) dX6_readExpression_43 rfl rfl ?_
        refine g_dup (pc' := 45) dX6_readExpression_44 rfl rfl ?_
        refine g_getIv (v := nI (p)) (pc' := 48) (k := 8) dX6_readExpression_45 rfl rfl ck_7 (by decide) fl_X6_43 rfl (hst.2.2.1) ?_
        refine g_iconstN (n := 1) (pc' := 49) dX6_readExpression_48 rfl ?_
        refine g_iaddN (pc' := 50) dX6_readExpression_49 rfl ?_
        refine g_putI (pc' := 53) (k := 8) dX6_readExpression_50 rfl rfl ck_7 (by decide) fl_X6_43 rfl rfl rfl rfl ?_
        refine g_aload_n (pc' := 54) dX6_readExpression_53 rfl rfl ?_
        refine g_iload_n (pc' := 55) dX6_readExpression_54 rfl rfl ?_
        refine g_invV (pc' := 58) (hF A o (p + 1) s _ ho (by omega) (by omega) (ST.re (ST.at (q := p + 1) hst) s) h9) dX6_readExpression_55 rfl rfl ck_7 rfl ml_X6_105 im_X6_readTerm sl_X6_readTerm in_X6 co_X6_readTerm pd_X6_readTerm rfl (by omega) (by decide) ⟨by decide, by decide⟩ (Nat.le_of_ble_eq_true rfl) ?_
        rintro _ h2 ⟨rfl, q1, q2⟩ -
        rcases Classical.em ((px b u 1 A o (p + 1)).1 = 0) with e1 | e1
        ·
          obtain ⟨s2, hst2, l1, l2, sc2⟩ := q1 e1
          rw [show bi ((px b u 1 A o (p + 1)).1 = 0) = nI 1 from bi_t e1]
          refine g_istore_n (pc' := 59) dX6_readExpression_58 rfl (by decide) rfl ?_
          try simp only [List.set]
          refine g_aload_n (pc' := 60) dX6_readExpression_59 rfl rfl ?_
          refine g_iload (pc' := 62) dX6_readExpression_60 rfl rfl ?_
          refine g_iconstN (n := 0) (pc' := 63) dX6_readExpression_62 rfl ?_
          refine g_invV (pc' := 66) (cr_add hok hst2.1.1 hst2.2.2.2 (by omega) _ _) dX6_readExpression_63 rfl rfl ck_7 rfl ml_X6_91 im_X6_addStep sl_X6_addStep in_X6 co_X6_addStep pd_X6_addStep rfl (by omega) (by decide) ⟨by decide, by decide⟩ (Nat.le_of_ble_eq_true rfl) ?_
          rintro _ _ ⟨rfl, rfl⟩ -
          refine g_iincN (k := 1) (pc' := 69) dX6_readExpression_66 rfl rfl (by decide) rfl ?_
          try simp only [List.set]
          refine g_goto (tgt := 8) dX6_readExpression_69 (by decide) ?_
          refine G.drop 4 ?_
          simp only [List.set]
          have eq : px b (u + 1) 4 A o p = px b u 4 (fBin (b p) A (px b u 1 A o (p + 1)).2.2) o (px b u 1 A o (p + 1)).2.1 := by rw [px_4, cif_t tm, bnd_t e1]
          refine hL (fBin (b p) A (px b u 1 A o (p + 1)).2.2) o p0 s0 (px b u 1 A o (p + 1)).2.1 (s2 + 1) (kk + 1) h _ h0 Q ho (by omega) (by omega) (by omega) pq.1 (by omega) (ST.as (c := nI (b p)) (a := nI 0) (ST.tr (ST.at (q := p + 1) hst) hst2 (by omega)) (by omega) (by omega)) (SC.asA (SC.kt (h := wI h1 (6, i) 8 (nI (p + 1))) sc hst2.2.1 (Nat.le_refl s)) sc2 ar (by omega)) (by rw [← eq]; exact hne) (fun v h3 q => hQ v h3 (by rw [eq]; exact q))
        ·
          have fb := q2 e1
          obtain ⟨s2, l1, l2, e9⟩ := fb.2.2.1
          rw [show bi ((px b u 1 A o (p + 1)).1 = 0) = nI 0 from bi_f e1]
          refine g_istore_n (pc' := 59) dX6_readExpression_58 rfl (by decide) rfl ?_
          try simp only [List.set]
          refine g_aload_n (pc' := 60) dX6_readExpression_59 rfl rfl ?_
          refine g_iload (pc' := 62) dX6_readExpression_60 rfl rfl ?_
          refine g_iconstN (n := 0) (pc' := 63) dX6_readExpression_62 rfl ?_
          refine g_invV (pc' := 66) (cr_add hok fb.1.1 e9 l2 _ _) dX6_readExpression_63 rfl rfl ck_7 rfl ml_X6_91 im_X6_addStep sl_X6_addStep in_X6 co_X6_addStep pd_X6_addStep rfl (by omega) (by decide) ⟨by decide, by decide⟩ (Nat.le_of_ble_eq_true rfl) ?_
          rintro _ _ ⟨rfl, rfl⟩ -
          refine g_iincN (k := 1) (pc' := 69) dX6_readExpression_66 rfl rfl (by decide) rfl ?_
          try simp only [List.set]
          refine g_goto (tgt := 8) dX6_readExpression_69 (by decide) ?_
          refine G.drop 4 ?_
          simp only [List.set]
          refine g_iload_n (pc' := 9) dX6_readExpression_8 rfl rfl ?_
          refine g_sipushN (n := 200) (pc' := 12) dX6_readExpression_9 rfl (by decide) ?_
          refine g_icmp_geN (tgt := 72) (pc' := 15) dX6_readExpression_12 rfl (by decide) (by omega) (by omega) (fun c12 => ?_) (fun c12 => ?_)
          ·
            refine g_iload_n (pc' := 73) dX6_readExpression_72 rfl rfl ?_
            refine g_zret dX6_readExpression_73 rfl (by rfl) (by decide) (by decide) ?_
            refine hQ _ _ ?_
            rw [px_4, cif_t tm, bnd_f e1]
            exact PB.no e1 ((FB.tr (ST.at (q := p + 1) hst) fb (by omega)).as (by omega) l2 e9)
          ·
            refine g_iload_n (pc' := 16) dX6_readExpression_15 rfl rfl ?_
            refine g_if_eqN (tgt := 72) (pc' := 19) dX6_readExpression_16 rfl (by decide) (by decide) (fun _ => ?_) (fun q => False.elim (by revert q; decide))
            refine g_iload_n (pc' := 73) dX6_readExpression_72 rfl rfl ?_
            refine g_zret dX6_readExpression_73 rfl (by rfl) (by decide) (by decide) ?_
            refine hQ _ _ ?_
            rw [px_4, cif_t tm, bnd_f e1]
            exact PB.no e1 ((FB.tr (ST.at (q := p + 1) hst) fb (by omega)).as (by omega) l2 e9)
theorem ce_all {E : En} (hok : EOK E) {b : Nat → Nat} {n i : Nat} (hb : HB b n) : ∀ u, CE1 E m_X6_readFactor 4 b n i u 0 ∧ CE1 E m_X6_readTerm 5 b n i u 1 ∧ LE1 E m_X6_readTerm 5 b n i u 2 ∧ CE1 E m_X6_readExpression 6 b n i u 3 ∧ LE1 E m_X6_readExpression 6 b n i u 4
  | 0 => ⟨fun _ _ _ _ _ _ _ _ _ z => absurd rfl z, fun _ _ _ _ _ _ _ _ _ z => absurd rfl z, fun _ _ _ _ _ _ _ _ _ _ _ _ _ _ _ _ _ _ _ z => absurd rfl z, fun _ _ _ _ _ _ _ _ _ z => absurd rfl z, fun _ _ _ _ _ _ _ _ _ _ _ _ _ _ _ _ _ _ _ z => absurd rfl z⟩
  | u + 1 => by
    obtain ⟨a, c, d, e, f⟩ := ce_all hok hb (i := i) u
    exact ⟨fac_step hok hb e, term_step hok hb a d, tt_step hok hb a d, expr_step hok hb c f, et_step hok hb c f⟩
theorem cr_expr {E : En} (hok : EOK E) {b : Nat → Nat} {n i : Nat} (hb : HB b n) (A : Mng) {o p s : Nat} {h : Hp} (ho : o ≤ 6) (hsp : s ≤ p) (hp : p ≤ n) (hst : ST b n i s p s h h) : Call E m_X6_readExpression (3 * (6 - o) + 6) 0 0 [vR (6, i), vI (nI o)] h (PB b n i false p s (px b 1000 3 A o p) h) :=
  (ce_all hok hb 1000).2.2.2.1 A o p s h ho hsp hp hst (px_t hb 1000 3 A o p hp (by show 4 * (n - p) + 3 ≤ 1000; have := hb.1; omega))
