/-! the reference: a piece of a condition, and what stands behind it -/
theorem em3 (P Q : Prop) : (P ∧ ¬ Q) ∨ (P ∧ Q) ∨ ¬ P := by
  by_cases p : P
  · by_cases q : Q
    · exact Or.inr (Or.inl ⟨p, q⟩)
    · exact Or.inl ⟨p, q⟩
  · exact Or.inr (Or.inr p)
noncomputable def cmR (b : Nat → Nat) (o p : Nat) (A : Mng) : Rs := bnd (px b 1000 3 A o p) fun q F => cif (isCm (b q)) (bnd (px b 1000 3 A o (q + 1)) fun q2 F2 => (0, q2, fBin (b q) F F2)) (1, q, F)
def CMq (b : Nat → Nat) (n : Nat) (A : Mng) (p c w o : Nat) (h : Hp) : Prop := ((cmR b o p A).1 = 0 → TS b n (cmR b o p A).2.1 c w o (cmR b o p A).2.2 h ∨ (b (cmR b o p A).2.1 = 93 ∧ h.1 MO 45 = bdv 1 (cmR b o p A).2.1)) ∧ (¬ (cmR b o p A).1 = 0 → h.1 MO 45 = bdv (cmR b o p A).1 (cmR b o p A).2.1)
def pfx (x : Nat) : Prop := x = 33 ∨ x = 40
/-- behind pieceOfC(): it took j signs ! and (, then a comparison stood there, or all is wrong -/
def FP (b : Nat → Nat) (n : Nat) (A : Mng) (p c w o : Nat) (h : Hp) : Prop := ∃ j, (∀ i, i < j → pfx (b (p + i)) ∧ h.1 (152, 0) (w + i) = nI (b (p + i))) ∧ o + j ≤ 6 ∧ ((o + j = 6 ∧ pfx (b (p + j)) ∧ h.1 MO 45 = bdv 5 (p + j)) ∨ (¬ pfx (b (p + j)) ∧ CMq b n A (p + j) c (w + j) (o + j) h))
theorem FP.cons {b : Nat → Nat} {n p c w o : Nat} {A : Mng} {h : Hp} (e : pfx (b p)) (es : h.1 (152, 0) w = nI (b p)) (q : FP b n A (p + 1) c (w + 1) (o + 1) h) : FP b n A p c w o h := by
  obtain ⟨j, q1, q2, q3⟩ := q
  refine ⟨j + 1, fun i hi => ?_, by omega, ?_⟩
  · rcases i with _ | i
    · exact ⟨e, es⟩
    · have := q1 i (by omega)
      rw [show p + 1 + i = p + (i + 1) by omega, show w + 1 + i = w + (i + 1) by omega] at this
      exact this
  · rw [show p + 1 + j = p + (j + 1) by omega, show w + 1 + j = w + (j + 1) by omega, show o + 1 + j = o + (j + 1) by omega] at q3
    exact q3
theorem FP.opn {b : Nat → Nat} {n p c w o : Nat} {A : Mng} {h : Hp} (q : FP b n A p c w o h) (e : pfx (b p)) (ho : o < 6) : h.1 (152, 0) w = nI (b p) ∧ FP b n A (p + 1) c (w + 1) (o + 1) h := by
  obtain ⟨j, q1, q2, q3⟩ := q
  rcases j with _ | j
  · rcases q3 with ⟨z, _⟩ | ⟨z, _⟩
    · omega
    · exact absurd e z
  · refine ⟨(q1 0 (by omega)).2, j, fun i hi => ?_, by omega, ?_⟩
    · have := q1 (i + 1) (by omega)
      rw [show p + 1 + i = p + (i + 1) by omega, show w + 1 + i = w + (i + 1) by omega]
      exact this
    · rw [show p + 1 + j = p + (j + 1) by omega, show w + 1 + j = w + (j + 1) by omega, show o + 1 + j = o + (j + 1) by omega]
      exact q3
theorem FP.full {b : Nat → Nat} {n p c w o : Nat} {A : Mng} {h : Hp} (q : FP b n A p c w o h) (e : pfx (b p)) (ho : 6 ≤ o) : h.1 MO 45 = bdv 5 p := by
  obtain ⟨j, q1, q2, q3⟩ := q
  have : j = 0 := by omega
  subst this
  rcases q3 with ⟨_, _, z⟩ | ⟨z, _⟩
  · exact z
  · exact absurd e z
theorem FP.atom {b : Nat → Nat} {n p c w o : Nat} {A : Mng} {h : Hp} (q : FP b n A p c w o h) (e : ¬ pfx (b p)) : CMq b n A p c w o h := by
  obtain ⟨j, q1, q2, q3⟩ := q
  rcases j with _ | j
  · rcases q3 with ⟨_, z, _⟩ | ⟨_, z⟩
    · exact absurd z e
    · exact z
  · exact absurd (q1 0 (by omega)).1 e
theorem isCm_g {x : Nat} (h : isCm x) : (¬ isTm x ∧ ¬ isPl x) ∧ ¬ x = 91 ∧ x < 256 := by unfold isCm at h; unfold isTm isPl; omega
theorem pfx_g {x : Nat} (h : pfx x) : (¬ isTm x ∧ ¬ isPl x) ∧ ¬ x = 91 ∧ x < 256 := by unfold pfx at h; unfold isTm isPl; omega
theorem RT.w50 {b : Nat → Nat} {n : Nat} {x : Int32} {h : Hp} (t : RT b n h) : RT b n (wI h MO 50 x) := t
theorem YK.o {c w : Nat} {x : Int32} {h h1 : Hp} (k : YK c w h h1) (e : h.1 MO 50 = x) : YK c w h (wI h1 MO 50 x) :=
  ⟨k.1, fun a q1 q2 q3 q4 => (wI_off _ _ _ _ a q1).trans (k.2.1 a q1 q2 q3 q4), fun i hi => by
    by_cases z : i = 50
    · rw [z, wI_same, e]
    · exact (wI_f z).trans (k.2.2.1 i hi), k.2.2.2.1, k.2.2.2.2⟩
set_option maxRecDepth 4000 in
theorem pi_loop {E : En} (hok : EOK E) {b : Nat → Nat} {n c : Nat} (A : Mng) {h0 : Hp} (hb : HB b n) {Q : Option V → Hp → Prop} : ∀ (m p w o g : Nat) (h h1 : Hp), n - p ≤ m → o ≤ 6 → YK c w h h1 → RS b n p c w o h1 → NO h1 w o → g < 256 → tpV w h1 = nI g → ((¬ isTm g ∧ ¬ isPl g) ∧ ¬ g = 91) → (∀ h2, YK c w h h2 → FP b n A p c w o h2 → Q none h2) → G E m_X12_pieceOfC 5 0 0 Q h0 0 [some (vR MO), none] [] h1 0 0 := by
  have hb1 := hb.1
  intro m
  induction m with
  | zero =>
    intro p w o g h h1 hm ho hk hr no hg htp hgn hQ
    have hi := hr.i
    have hp4 : p ≤ 400 := by omega
    have h256p := hb.2.1 p
    refine g_aload_n (pc' := 1) dX12_pieceOfC_0 rfl rfl ?_
    refine g_invV (pc' := 4) (cm_good hok hr.g) dX12_pieceOfC_1 rfl rfl ck_13 rfl ml_X12_271 im_X12_isGood sl_X12_isGood in_X12 co_X12_isGood pd_X12_isGood rfl (by omega) (by decide) ⟨by decide, by decide⟩ (Nat.le_of_ble_eq_true rfl) ?_
    rintro _ _ ⟨rfl, rfl⟩ -
    refine g_if_eqN (tgt := 32) (pc' := 7) dX12_pieceOfC_4 rfl (by decide) (by decide) (fun q => False.elim (by revert q; decide)) (fun _ => ?_)
    refine g_aload_n (pc' := 8) dX12_pieceOfC_7 rfl rfl ?_
    refine g_invV (pc' := 11) (cm_here hok hb hr.1 hr.2.1 hp4) dX12_pieceOfC_8 rfl rfl ck_13 rfl ml_X12_288 im_X12_here sl_X12_here in_X12 co_X12_here pd_X12_here rfl (by omega) (by decide) ⟨by decide, by decide⟩ (Nat.le_of_ble_eq_true rfl) ?_
    rintro _ _ ⟨rfl, rfl⟩ -
    refine g_bipushN (n := 33) (pc' := 13) dX12_pieceOfC_11 rfl (by decide) ?_
    refine g_icmp_eqN (tgt := 25) (pc' := 16) dX12_pieceOfC_13 rfl (by decide) (by omega) (by omega) (fun c13 => ?_) (fun c13 => ?_)
    · exact absurd (bz hb (show ¬ p < n by omega)) (by omega)
    ·
      refine g_aload_n (pc' := 17) dX12_pieceOfC_16 rfl rfl ?_
      refine g_invV (pc' := 20) (cm_here hok hb hr.1 hr.2.1 hp4) dX12_pieceOfC_17 rfl rfl ck_13 rfl ml_X12_288 im_X12_here sl_X12_here in_X12 co_X12_here pd_X12_here rfl (by omega) (by decide) ⟨by decide, by decide⟩ (Nat.le_of_ble_eq_true rfl) ?_
      rintro _ _ ⟨rfl, rfl⟩ -
      refine g_bipushN (n := 40) (pc' := 22) dX12_pieceOfC_20 rfl (by decide) ?_
      refine g_icmp_neN (tgt := 32) (pc' := 25) dX12_pieceOfC_22 rfl (by decide) (by omega) (by omega) (fun c22 => ?_) (fun c22 => ?_)
      ·
        have npf : ¬ pfx (b (p + 0)) := by show ¬ pfx (b p); unfold pfx; omega
        refine g_aload_n (pc' := 33) dX12_pieceOfC_32 rfl rfl ?_
        refine g_invV (pc' := 36) (cm_good hok hr.g) dX12_pieceOfC_33 rfl rfl ck_13 rfl ml_X12_271 im_X12_isGood sl_X12_isGood in_X12 co_X12_isGood pd_X12_isGood rfl (by omega) (by decide) ⟨by decide, by decide⟩ (Nat.le_of_ble_eq_true rfl) ?_
        rintro _ _ ⟨rfl, rfl⟩ -
        refine g_if_eqN (tgt := 43) (pc' := 39) dX12_pieceOfC_36 rfl (by decide) (by decide) (fun q => False.elim (by revert q; decide)) (fun _ => ?_)
        refine g_aload_n (pc' := 40) dX12_pieceOfC_39 rfl rfl ?_
        refine g_invV (pc' := 43) (cm_value hok A hb hr ho hg htp hgn.1 hgn.2) dX12_pieceOfC_40 rfl rfl ck_13 rfl ml_X12_340 im_X12_value sl_X12_value in_X12 co_X12_value pd_X12_value rfl (by omega) (by decide) ⟨by decide, by decide⟩ (Nat.le_of_ble_eq_true rfl) ?_
        rintro _ h2 ⟨rfl, k2, q1, q2, q3⟩ -
        have pk := px_ok hb 1000 3 A o p hi.2
        have pk1 := pk.1
        have pk2 := pk.2.1
        rcases em3 ((px b 1000 3 A o p).1 = 0) (b (px b 1000 3 A o p).2.1 = 93) with ⟨e1, e2⟩ | ⟨e1, e2⟩ | e1
        ·
          obtain ⟨c1, hc1, hr1, sr1⟩ := q1 e1 e2
          have hi1 := hr1.i
          have hq4 : (px b 1000 3 A o p).2.1 ≤ 400 := by omega
          have h256 := hb.2.1 (px b 1000 3 A o p).2.1
          refine g_aload_n (pc' := 44) dX12_pieceOfC_43 rfl rfl ?_
          refine g_invV (pc' := 47) (cm_good hok hr1.g) dX12_pieceOfC_44 rfl rfl ck_13 rfl ml_X12_271 im_X12_isGood sl_X12_isGood in_X12 co_X12_isGood pd_X12_isGood rfl (by omega) (by decide) ⟨by decide, by decide⟩ (Nat.le_of_ble_eq_true rfl) ?_
          rintro _ _ ⟨rfl, rfl⟩ -
          refine g_if_neN (tgt := 51) (pc' := 50) dX12_pieceOfC_47 rfl (by decide) (by decide) (fun _ => ?_) (fun q => False.elim (by revert q; decide))
          refine g_aload_n (pc' := 52) dX12_pieceOfC_51 rfl rfl ?_
          refine g_invV (pc' := 55) (cm_here hok hb hr1.1 hr1.2.1 hq4) dX12_pieceOfC_52 rfl rfl ck_13 rfl ml_X12_288 im_X12_here sl_X12_here in_X12 co_X12_here pd_X12_here rfl (by omega) (by decide) ⟨by decide, by decide⟩ (Nat.le_of_ble_eq_true rfl) ?_
          rintro _ _ ⟨rfl, rfl⟩ -
          refine g_istore_n (pc' := 56) dX12_pieceOfC_55 rfl (by decide) rfl ?_
          try simp only [List.set]
          refine g_iload_n (pc' := 57) dX12_pieceOfC_56 rfl rfl ?_
          refine g_invS (pc' := 60) (cm_isCm hok (hb.2.1 _)) dX12_pieceOfC_57 rfl ml_X12_343 st_X12_isSign in_X12 co_X12_isSign pd_X12_isSign rfl (by omega) (by decide) ⟨by decide, by decide⟩ (Nat.le_of_ble_eq_true rfl) ?_
          rintro _ _ ⟨rfl, rfl⟩ -
          refine g_ifB_ne (tgt := 73) (pc' := 63) dX12_pieceOfC_60 rfl (by decide) (fun c60 => ?_) (fun c60 => ?_)
          ·
            have hlt := hb.lt (isCm_ne c60)
            have hr2 : RS b n ((px b 1000 3 A o p).2.1 + 1) c1 (w + 1) o (ptH w (px b 1000 3 A o p).2.1 (nI (b (px b 1000 3 A o p).2.1)) h2) := hr1.put hlt
            have hi2 := hr2.i
            have htp2 : tpV (w + 1) (ptH w (px b 1000 3 A o p).2.1 (nI (b (px b 1000 3 A o p).2.1)) h2) = nI (b (px b 1000 3 A o p).2.1) := (tpV_s w _).trans (wI_same h2 (152, 0) w (nI (b (px b 1000 3 A o p).2.1)))
            refine g_aload_n (pc' := 74) dX12_pieceOfC_73 rfl rfl ?_
            refine g_iload_n (pc' := 75) dX12_pieceOfC_74 rfl rfl ?_
            refine g_invV (pc' := 78) (cm_puts hok hr1.s hr1.2.2.2.1 hr1.2.1 (by omega) _) dX12_pieceOfC_75 rfl rfl ck_13 rfl ml_X12_292 im_X12_puts sl_X12_puts in_X12 co_X12_puts pd_X12_puts rfl (by omega) (by decide) ⟨by decide, by decide⟩ (Nat.le_of_ble_eq_true rfl) ?_
            rintro _ _ ⟨rfl, rfl⟩ -
            refine g_aload_n (pc' := 79) dX12_pieceOfC_78 rfl rfl ?_
            refine g_invV (pc' := 82) (cm_value hok A hb hr2 ho (isCm_g c60).2.2 htp2 (isCm_g c60).1 (isCm_g c60).2.1) dX12_pieceOfC_79 rfl rfl ck_13 rfl ml_X12_340 im_X12_value sl_X12_value in_X12 co_X12_value pd_X12_value rfl (by omega) (by decide) ⟨by decide, by decide⟩ (Nat.le_of_ble_eq_true rfl) ?_
            rintro _ h3 ⟨rfl, k3, q4, q5, q6⟩ -
            have pr := px_ok hb 1000 3 A o ((px b 1000 3 A o p).2.1 + 1) hi2.2
            have pr1 := pr.1
            have pr2 := pr.2.1
            rcases em3 ((px b 1000 3 A o ((px b 1000 3 A o p).2.1 + 1)).1 = 0) (b (px b 1000 3 A o ((px b 1000 3 A o p).2.1 + 1)).2.1 = 93) with ⟨e3, e4⟩ | ⟨e3, e4⟩ | e3
            ·
              obtain ⟨c2, hc2, hr3, sr3⟩ := q4 e3 e4
              have hi3 := hr3.i
              have htp3 : tpV (w + 1) h3 = nI (b (px b 1000 3 A o p).2.1) := (tpV_k k3).trans htp2
              refine g_aload_n (pc' := 83) dX12_pieceOfC_82 rfl rfl ?_
              refine g_invV (pc' := 86) (cm_good hok hr3.g) dX12_pieceOfC_83 rfl rfl ck_13 rfl ml_X12_271 im_X12_isGood sl_X12_isGood in_X12 co_X12_isGood pd_X12_isGood rfl (by omega) (by decide) ⟨by decide, by decide⟩ (Nat.le_of_ble_eq_true rfl) ?_
              rintro _ _ ⟨rfl, rfl⟩ -
              refine g_if_neN (tgt := 90) (pc' := 89) dX12_pieceOfC_86 rfl (by decide) (by decide) (fun _ => ?_) (fun q => False.elim (by revert q; decide))
              refine g_aload_n (pc' := 91) dX12_pieceOfC_90 rfl rfl ?_
              refine g_aload_n (pc' := 92) dX12_pieceOfC_91 rfl rfl ?_
              refine g_invV (pc' := 95) (cm_top hok hr3.s hr3.2.2.2.1 (by omega) htp3) dX12_pieceOfC_92 rfl rfl ck_13 rfl ml_X12_305 im_X12_top sl_X12_top in_X12 co_X12_top pd_X12_top rfl (by omega) (by decide) ⟨by decide, by decide⟩ (Nat.le_of_ble_eq_true rfl) ?_
              rintro _ _ ⟨rfl, rfl⟩ -
              refine g_iconstN (n := 0) (pc' := 96) dX12_pieceOfC_95 rfl ?_
              refine g_invV (pc' := 99) (cm_emit hok hr3.s hr3.g hr3.2.2.1 (by omega) _ _) dX12_pieceOfC_96 rfl rfl ck_13 rfl ml_X12_314 im_X12_emit sl_X12_emit in_X12 co_X12_emit pd_X12_emit rfl (by omega) (by decide) ⟨by decide, by decide⟩ (Nat.le_of_ble_eq_true rfl) ?_
              rintro _ _ ⟨rfl, rfl⟩ -
              refine g_aload_n (pc' := 100) dX12_pieceOfC_99 rfl rfl ?_
              refine g_dup (pc' := 101) dX12_pieceOfC_100 rfl rfl ?_
              refine g_getIv (v := nI (w + 1)) (pc' := 104) (k := 49) dX12_pieceOfC_101 rfl rfl ck_13 (by decide) fl_X12_278 rfl (hr3.2.2.2.1) ?_
              refine g_iconstN (n := 1) (pc' := 105) dX12_pieceOfC_104 rfl ?_
              refine g_isubN (pc' := 106) dX12_pieceOfC_105 rfl (by omega) ?_
              refine g_putI (pc' := 109) (k := 49) dX12_pieceOfC_106 rfl rfl ck_13 (by decide) fl_X12_278 rfl rfl rfl rfl ?_
              have no4 : NO (popH c2 w (nI (b (px b 1000 3 A o p).2.1)) h3) w o := no.k (((k2.put (Nat.le_refl w)).tr k3 (by omega) (by omega)).pop (by omega)) (Nat.le_refl w)
              refine g_aload_n (pc' := 110) dX12_pieceOfC_109 rfl rfl ?_
              refine g_invV (pc' := 113) (cm_ends (h := popH c2 w (nI (b (px b 1000 3 A o p).2.1)) h3) hok hb hr3.pop no4) dX12_pieceOfC_110 rfl rfl ck_13 rfl ml_X12_346 im_X12_ends sl_X12_ends in_X12 co_X12_ends pd_X12_ends rfl (by omega) (by decide) ⟨by decide, by decide⟩ (Nat.le_of_ble_eq_true rfl) ?_
              rintro _ h5 en -
              obtain ⟨rfl, ken, -⟩ := id en
              refine g_vret dX12_pieceOfC_113 rfl (by decide) (by decide) ?_
              refine hQ _ (hk.tr ((((k2.put (Nat.le_refl w)).tr k3 (by omega) (by omega)).pop (by omega)).tr (ken w) (by omega) (Nat.le_refl w)) (Nat.le_refl c) (Nat.le_refl w)) ⟨0, fun i hi => absurd hi (Nat.not_lt_zero i), ho, Or.inr ⟨npf, ?_⟩⟩
              have ea : cmR b (o + 0) (p + 0) A = (0, (px b 1000 3 A o ((px b 1000 3 A o p).2.1 + 1)).2.1, fBin (b (px b 1000 3 A o p).2.1) (px b 1000 3 A o p).2.2 (px b 1000 3 A o ((px b 1000 3 A o p).2.1 + 1)).2.2) := (bnd_t e1).trans ((cif_t c60).trans (bnd_t e3))
              unfold CMq
              rw [ea]
              refine ⟨fun _ => Or.inl (EnP.ts en ?_), fun z => absurd rfl z⟩
              have kp : YK c2 0 h3 (popH c2 w (nI (b (px b 1000 3 A o p).2.1)) h3) := (YK.rf c2 0 h3).pop (Nat.le_refl c2)
              exact SR.cmp (SRh.k (SRh.k (h := ptH w (px b 1000 3 A o p).2.1 (nI (b (px b 1000 3 A o p).2.1)) h2) sr1 k3 (Nat.le_refl c1)) kp (by omega)) (sr3.k kp (Nat.le_refl c2)) (em_c (a := nI 0)).1 c60
            ·
              have e45 := q5 e3 e4
              have hbad : ¬ h3.1 MO 45 = 0 := by
                rw [e45]
                exact bdv_ne (by omega) (by omega) (by omega)
              refine g_aload_n (pc' := 83) dX12_pieceOfC_82 rfl rfl ?_
              refine g_invV (pc' := 86) (cm_bad hok hbad) dX12_pieceOfC_83 rfl rfl ck_13 rfl ml_X12_271 im_X12_isGood sl_X12_isGood in_X12 co_X12_isGood pd_X12_isGood rfl (by omega) (by decide) ⟨by decide, by decide⟩ (Nat.le_of_ble_eq_true rfl) ?_
              rintro _ _ ⟨rfl, rfl⟩ -
              refine g_if_neN (tgt := 90) (pc' := 89) dX12_pieceOfC_86 rfl (by decide) (by decide) (fun q => False.elim (by revert q; decide)) (fun _ => ?_)
              refine g_vret dX12_pieceOfC_89 rfl (by decide) (by decide) ?_
              refine hQ _ (hk.tr ((k2.put (Nat.le_refl w)).tr k3 (by omega) (by omega)) (Nat.le_refl c) (Nat.le_refl w)) ⟨0, fun i hi => absurd hi (Nat.not_lt_zero i), ho, Or.inr ⟨npf, ?_⟩⟩
              have ea : cmR b (o + 0) (p + 0) A = (0, (px b 1000 3 A o ((px b 1000 3 A o p).2.1 + 1)).2.1, fBin (b (px b 1000 3 A o p).2.1) (px b 1000 3 A o p).2.2 (px b 1000 3 A o ((px b 1000 3 A o p).2.1 + 1)).2.2) := (bnd_t e1).trans ((cif_t c60).trans (bnd_t e3))
              unfold CMq
              rw [ea]
              exact ⟨fun _ => Or.inr ⟨e4, e45⟩, fun z => absurd rfl z⟩
            ·
              have e45 := q6 e3
              have hbad : ¬ h3.1 MO 45 = 0 := by
                rw [e45]
                exact bdv_ne (by omega) (by omega) (by omega)
              refine g_aload_n (pc' := 83) dX12_pieceOfC_82 rfl rfl ?_
              refine g_invV (pc' := 86) (cm_bad hok hbad) dX12_pieceOfC_83 rfl rfl ck_13 rfl ml_X12_271 im_X12_isGood sl_X12_isGood in_X12 co_X12_isGood pd_X12_isGood rfl (by omega) (by decide) ⟨by decide, by decide⟩ (Nat.le_of_ble_eq_true rfl) ?_
              rintro _ _ ⟨rfl, rfl⟩ -
              refine g_if_neN (tgt := 90) (pc' := 89) dX12_pieceOfC_86 rfl (by decide) (by decide) (fun q => False.elim (by revert q; decide)) (fun _ => ?_)
              refine g_vret dX12_pieceOfC_89 rfl (by decide) (by decide) ?_
              refine hQ _ (hk.tr ((k2.put (Nat.le_refl w)).tr k3 (by omega) (by omega)) (Nat.le_refl c) (Nat.le_refl w)) ⟨0, fun i hi => absurd hi (Nat.not_lt_zero i), ho, Or.inr ⟨npf, ?_⟩⟩
              have ea : cmR b (o + 0) (p + 0) A = (px b 1000 3 A o ((px b 1000 3 A o p).2.1 + 1)) := (bnd_t e1).trans ((cif_t c60).trans (bnd_f e3))
              unfold CMq
              rw [ea]
              exact ⟨fun z => absurd z e3, fun _ => e45⟩
          ·
            refine g_aload_n (pc' := 64) dX12_pieceOfC_63 rfl rfl ?_
            refine g_iconstN (n := 1) (pc' := 65) dX12_pieceOfC_64 rfl ?_
            refine g_aload_n (pc' := 66) dX12_pieceOfC_65 rfl rfl ?_
            refine g_getIv (v := nI ((px b 1000 3 A o p).2.1)) (pc' := 69) (k := 43) dX12_pieceOfC_66 rfl rfl ck_13 (by decide) fl_X12_262 rfl (hr1.2.1) ?_
            refine g_invV (pc' := 72) (cm_wrong hok hr1.g 1 (px b 1000 3 A o p).2.1) dX12_pieceOfC_69 rfl rfl ck_13 rfl ml_X12_284 im_X12_wrongs sl_X12_wrongs in_X12 co_X12_wrongs pd_X12_wrongs rfl (by omega) (by decide) ⟨by decide, by decide⟩ (Nat.le_of_ble_eq_true rfl) ?_
            rintro _ _ ⟨rfl, rfl⟩ -
            refine g_vret dX12_pieceOfC_72 rfl (by decide) (by decide) ?_
            refine hQ _ (hk.tr (k2.f rfl) (Nat.le_refl c) (Nat.le_refl w)) ⟨0, fun i hi => absurd hi (Nat.not_lt_zero i), ho, Or.inr ⟨npf, ?_⟩⟩
            have ea : cmR b (o + 0) (p + 0) A = (1, (px b 1000 3 A o p).2.1, (px b 1000 3 A o p).2.2) := (bnd_t e1).trans (cif_f c60)
            unfold CMq
            rw [ea]
            exact ⟨fun z => absurd (show (1 : Nat) = 0 from z) (by decide), fun _ => wI_same _ _ _ _⟩
        ·
          have e45 := q2 e1 e2
          have hbad : ¬ h2.1 MO 45 = 0 := by
            rw [e45]
            exact bdv_ne (by omega) (by omega) (by omega)
          refine g_aload_n (pc' := 44) dX12_pieceOfC_43 rfl rfl ?_
          refine g_invV (pc' := 47) (cm_bad hok hbad) dX12_pieceOfC_44 rfl rfl ck_13 rfl ml_X12_271 im_X12_isGood sl_X12_isGood in_X12 co_X12_isGood pd_X12_isGood rfl (by omega) (by decide) ⟨by decide, by decide⟩ (Nat.le_of_ble_eq_true rfl) ?_
          rintro _ _ ⟨rfl, rfl⟩ -
          refine g_if_neN (tgt := 51) (pc' := 50) dX12_pieceOfC_47 rfl (by decide) (by decide) (fun q => False.elim (by revert q; decide)) (fun _ => ?_)
          refine g_vret dX12_pieceOfC_50 rfl (by decide) (by decide) ?_
          refine hQ _ (hk.tr k2 (Nat.le_refl c) (Nat.le_refl w)) ⟨0, fun i hi => absurd hi (Nat.not_lt_zero i), ho, Or.inr ⟨npf, ?_⟩⟩
          have nc : ¬ isCm (b (px b 1000 3 A o p).2.1) := by rw [e2]; unfold isCm; omega
          have ea : cmR b (o + 0) (p + 0) A = (1, (px b 1000 3 A o p).2.1, (px b 1000 3 A o p).2.2) := (bnd_t e1).trans (cif_f nc)
          unfold CMq
          rw [ea]
          exact ⟨fun z => absurd (show (1 : Nat) = 0 from z) (by decide), fun _ => e45⟩
        ·
          have e45 := q3 e1
          have hbad : ¬ h2.1 MO 45 = 0 := by
            rw [e45]
            exact bdv_ne (by omega) (by omega) (by omega)
          refine g_aload_n (pc' := 44) dX12_pieceOfC_43 rfl rfl ?_
          refine g_invV (pc' := 47) (cm_bad hok hbad) dX12_pieceOfC_44 rfl rfl ck_13 rfl ml_X12_271 im_X12_isGood sl_X12_isGood in_X12 co_X12_isGood pd_X12_isGood rfl (by omega) (by decide) ⟨by decide, by decide⟩ (Nat.le_of_ble_eq_true rfl) ?_
          rintro _ _ ⟨rfl, rfl⟩ -
          refine g_if_neN (tgt := 51) (pc' := 50) dX12_pieceOfC_47 rfl (by decide) (by decide) (fun q => False.elim (by revert q; decide)) (fun _ => ?_)
          refine g_vret dX12_pieceOfC_50 rfl (by decide) (by decide) ?_
          refine hQ _ (hk.tr k2 (Nat.le_refl c) (Nat.le_refl w)) ⟨0, fun i hi => absurd hi (Nat.not_lt_zero i), ho, Or.inr ⟨npf, ?_⟩⟩
          have ea : cmR b (o + 0) (p + 0) A = (px b 1000 3 A o p) := bnd_f e1
          unfold CMq
          rw [ea]
          exact ⟨fun z => absurd z e1, fun _ => e45⟩
      · exact absurd (bz hb (show ¬ p < n by omega)) (by omega)
  | succ m ih =>
    intro p w o g h h1 hm ho hk hr no hg htp hgn hQ
    have hi := hr.i
    have hp4 : p ≤ 400 := by omega
    have h256p := hb.2.1 p
    refine g_aload_n (pc' := 1) dX12_pieceOfC_0 rfl rfl ?_
    refine g_invV (pc' := 4) (cm_good hok hr.g) dX12_pieceOfC_1 rfl rfl ck_13 rfl ml_X12_271 im_X12_isGood sl_X12_isGood in_X12 co_X12_isGood pd_X12_isGood rfl (by omega) (by decide) ⟨by decide, by decide⟩ (Nat.le_of_ble_eq_true rfl) ?_
    rintro _ _ ⟨rfl, rfl⟩ -
    refine g_if_eqN (tgt := 32) (pc' := 7) dX12_pieceOfC_4 rfl (by decide) (by decide) (fun q => False.elim (by revert q; decide)) (fun _ => ?_)
    refine g_aload_n (pc' := 8) dX12_pieceOfC_7 rfl rfl ?_
    refine g_invV (pc' := 11) (cm_here hok hb hr.1 hr.2.1 hp4) dX12_pieceOfC_8 rfl rfl ck_13 rfl ml_X12_288 im_X12_here sl_X12_here in_X12 co_X12_here pd_X12_here rfl (by omega) (by decide) ⟨by decide, by decide⟩ (Nat.le_of_ble_eq_true rfl) ?_
    rintro _ _ ⟨rfl, rfl⟩ -
    refine g_bipushN (n := 33) (pc' := 13) dX12_pieceOfC_11 rfl (by decide) ?_
    refine g_icmp_eqN (tgt := 25) (pc' := 16) dX12_pieceOfC_13 rfl (by decide) (by omega) (by omega) (fun c13 => ?_) (fun c13 => ?_)
    ·
      refine g_aload_n (pc' := 26) dX12_pieceOfC_25 rfl rfl ?_
      refine g_invV (pc' := 29) (cm_opens (w := w) hok hb hr.1 hr.2.1 (by omega) hr.g hr.2.2.2.1 hr.2.2.2.2.1 (by omega) ho) dX12_pieceOfC_26 rfl rfl ck_13 rfl ml_X12_317 im_X12_opens sl_X12_opens in_X12 co_X12_opens pd_X12_opens rfl (by omega) (by decide) ⟨by decide, by decide⟩ (Nat.le_of_ble_eq_true rfl) ?_
      rintro _ _ ⟨rfl, rfl⟩ -
      refine g_goto (tgt := 0) dX12_pieceOfC_29 (by decide) ?_
      have pf : pfx (b p) := by unfold pfx; omega
      have hlt := hb.lt (p := p) (by omega)
      by_cases o6 : o = 6
      · subst o6
        rw [if_pos rfl]
        have e45 : (ptH w p (nI (b p)) (wI (wI h1 MO 45 (bdv 5 p)) MO 48 (nI (6 + 1)))).1 MO 45 = bdv 5 p := by
          unfold ptH
          rw [wI_f (by decide), wI_f (by decide), wI_off _ _ _ _ MO (by decide), wI_f (by decide), wI_same]
        have hbad : ¬ (ptH w p (nI (b p)) (wI (wI h1 MO 45 (bdv 5 p)) MO 48 (nI (6 + 1)))).1 MO 45 = 0 := by
          rw [e45]
          exact bdv_ne (by decide) (by decide) (by omega)
        refine g_aload_n (pc' := 1) dX12_pieceOfC_0 rfl rfl ?_
        refine g_invV (pc' := 4) (cm_bad hok hbad) dX12_pieceOfC_1 rfl rfl ck_13 rfl ml_X12_271 im_X12_isGood sl_X12_isGood in_X12 co_X12_isGood pd_X12_isGood rfl (by omega) (by decide) ⟨by decide, by decide⟩ (Nat.le_of_ble_eq_true rfl) ?_
        rintro _ _ ⟨rfl, rfl⟩ -
        refine g_if_eqN (tgt := 32) (pc' := 7) dX12_pieceOfC_4 rfl (by decide) (by decide) (fun _ => ?_) (fun q => False.elim (by revert q; decide))
        refine g_aload_n (pc' := 33) dX12_pieceOfC_32 rfl rfl ?_
        refine g_invV (pc' := 36) (cm_bad hok hbad) dX12_pieceOfC_33 rfl rfl ck_13 rfl ml_X12_271 im_X12_isGood sl_X12_isGood in_X12 co_X12_isGood pd_X12_isGood rfl (by omega) (by decide) ⟨by decide, by decide⟩ (Nat.le_of_ble_eq_true rfl) ?_
        rintro _ _ ⟨rfl, rfl⟩ -
        refine g_if_eqN (tgt := 43) (pc' := 39) dX12_pieceOfC_36 rfl (by decide) (by decide) (fun _ => ?_) (fun q => False.elim (by revert q; decide))
        refine g_aload_n (pc' := 44) dX12_pieceOfC_43 rfl rfl ?_
        refine g_invV (pc' := 47) (cm_bad hok hbad) dX12_pieceOfC_44 rfl rfl ck_13 rfl ml_X12_271 im_X12_isGood sl_X12_isGood in_X12 co_X12_isGood pd_X12_isGood rfl (by omega) (by decide) ⟨by decide, by decide⟩ (Nat.le_of_ble_eq_true rfl) ?_
        rintro _ _ ⟨rfl, rfl⟩ -
        refine g_if_neN (tgt := 51) (pc' := 50) dX12_pieceOfC_47 rfl (by decide) (by decide) (fun q => False.elim (by revert q; decide)) (fun _ => ?_)
        refine g_vret dX12_pieceOfC_50 rfl (by decide) (by decide) ?_
        exact hQ _ (hk.tr ((((YK.rf c w h1).f rfl).f rfl).put (Nat.le_refl w)) (Nat.le_refl c) (Nat.le_refl w)) ⟨0, fun i hi => absurd hi (Nat.not_lt_zero i), ho, Or.inl ⟨rfl, pf, e45⟩⟩
      · rw [if_neg o6]
        have hr2 : RS b n (p + 1) c (w + 1) (o + 1) (ptH w p (nI (b p)) (wI h1 MO 48 (nI (o + 1)))) := ⟨hr.1.k (((YK.rf 0 0 h1).f rfl).put (Nat.zero_le w)), rfl, hr.2.2.1, rfl, rfl, hr.g, by omega, by omega⟩
        have k1 : YK c w h1 (ptH w p (nI (b p)) (wI h1 MO 48 (nI (o + 1)))) := ((YK.rf c w h1).f rfl).put (Nat.le_refl w)
        have ec : (ptH w p (nI (b p)) (wI h1 MO 48 (nI (o + 1)))).1 (152, 0) w = nI (b p) := wI_same (wI h1 MO 48 (nI (o + 1))) (152, 0) w (nI (b p))
        refine ih (p + 1) (w + 1) (o + 1) (b p) _ _ (by omega) (by omega) (YK.rf _ _ _) hr2 (no.k k1 (Nat.le_refl w)).put1 (pfx_g pf).2.2 ((tpV_s w _).trans ec) ⟨(pfx_g pf).1, (pfx_g pf).2.1⟩ (fun h2 k2 fa => hQ h2 ((hk.tr k1 (Nat.le_refl c) (Nat.le_refl w)).tr k2 (Nat.le_refl c) (Nat.le_succ w)) (FP.cons pf ?_ fa))
        rw [k2.2.2.2.2 w (Nat.lt_succ_self w)]
        exact ec
    ·
      refine g_aload_n (pc' := 17) dX12_pieceOfC_16 rfl rfl ?_
      refine g_invV (pc' := 20) (cm_here hok hb hr.1 hr.2.1 hp4) dX12_pieceOfC_17 rfl rfl ck_13 rfl ml_X12_288 im_X12_here sl_X12_here in_X12 co_X12_here pd_X12_here rfl (by omega) (by decide) ⟨by decide, by decide⟩ (Nat.le_of_ble_eq_true rfl) ?_
      rintro _ _ ⟨rfl, rfl⟩ -
      refine g_bipushN (n := 40) (pc' := 22) dX12_pieceOfC_20 rfl (by decide) ?_
      refine g_icmp_neN (tgt := 32) (pc' := 25) dX12_pieceOfC_22 rfl (by decide) (by omega) (by omega) (fun c22 => ?_) (fun c22 => ?_)
      ·
        have npf : ¬ pfx (b (p + 0)) := by show ¬ pfx (b p); unfold pfx; omega
        refine g_aload_n (pc' := 33) dX12_pieceOfC_32 rfl rfl ?_
        refine g_invV (pc' := 36) (cm_good hok hr.g) dX12_pieceOfC_33 rfl rfl ck_13 rfl ml_X12_271 im_X12_isGood sl_X12_isGood in_X12 co_X12_isGood pd_X12_isGood rfl (by omega) (by decide) ⟨by decide, by decide⟩ (Nat.le_of_ble_eq_true rfl) ?_
        rintro _ _ ⟨rfl, rfl⟩ -
        refine g_if_eqN (tgt := 43) (pc' := 39) dX12_pieceOfC_36 rfl (by decide) (by decide) (fun q => False.elim (by revert q; decide)) (fun _ => ?_)
        refine g_aload_n (pc' := 40) dX12_pieceOfC_39 rfl rfl ?_
        refine g_invV (pc' := 43) (cm_value hok A hb hr ho hg htp hgn.1 hgn.2) dX12_pieceOfC_40 rfl rfl ck_13 rfl ml_X12_340 im_X12_value sl_X12_value in_X12 co_X12_value pd_X12_value rfl (by omega) (by decide) ⟨by decide, by decide⟩ (Nat.le_of_ble_eq_true rfl) ?_
        rintro _ h2 ⟨rfl, k2, q1, q2, q3⟩ -
        have pk := px_ok hb 1000 3 A o p hi.2
        have pk1 := pk.1
        have pk2 := pk.2.1
        rcases em3 ((px b 1000 3 A o p).1 = 0) (b (px b 1000 3 A o p).2.1 = 93) with ⟨e1, e2⟩ | ⟨e1, e2⟩ | e1
        ·
          obtain ⟨c1, hc1, hr1, sr1⟩ := q1 e1 e2
          have hi1 := hr1.i
          have hq4 : (px b 1000 3 A o p).2.1 ≤ 400 := by omega
          have h256 := hb.2.1 (px b 1000 3 A o p).2.1
          refine g_aload_n (pc' := 44) dX12_pieceOfC_43 rfl rfl ?_
          refine g_invV (pc' := 47) (cm_good hok hr1.g) dX12_pieceOfC_44 rfl rfl ck_13 rfl ml_X12_271 im_X12_isGood sl_X12_isGood in_X12 co_X12_isGood pd_X12_isGood rfl (by omega) (by decide) ⟨by decide, by decide⟩ (Nat.le_of_ble_eq_true rfl) ?_
          rintro _ _ ⟨rfl, rfl⟩ -
          refine g_if_neN (tgt := 51) (pc' := 50) dX12_pieceOfC_47 rfl (by decide) (by decide) (fun _ => ?_) (fun q => False.elim (by revert q; decide))
          refine g_aload_n (pc' := 52) dX12_pieceOfC_51 rfl rfl ?_
          refine g_invV (pc' := 55) (cm_here hok hb hr1.1 hr1.2.1 hq4) dX12_pieceOfC_52 rfl rfl ck_13 rfl ml_X12_288 im_X12_here sl_X12_here in_X12 co_X12_here pd_X12_here rfl (by omega) (by decide) ⟨by decide, by decide⟩ (Nat.le_of_ble_eq_true rfl) ?_
          rintro _ _ ⟨rfl, rfl⟩ -
          refine g_istore_n (pc' := 56) dX12_pieceOfC_55 rfl (by decide) rfl ?_
          try simp only [List.set]
          refine g_iload_n (pc' := 57) dX12_pieceOfC_56 rfl rfl ?_
          refine g_invS (pc' := 60) (cm_isCm hok (hb.2.1 _)) dX12_pieceOfC_57 rfl ml_X12_343 st_X12_isSign in_X12 co_X12_isSign pd_X12_isSign rfl (by omega) (by decide) ⟨by decide, by decide⟩ (Nat.le_of_ble_eq_true rfl) ?_
          rintro _ _ ⟨rfl, rfl⟩ -
          refine g_ifB_ne (tgt := 73) (pc' := 63) dX12_pieceOfC_60 rfl (by decide) (fun c60 => ?_) (fun c60 => ?_)
          ·
            have hlt := hb.lt (isCm_ne c60)
            have hr2 : RS b n ((px b 1000 3 A o p).2.1 + 1) c1 (w + 1) o (ptH w (px b 1000 3 A o p).2.1 (nI (b (px b 1000 3 A o p).2.1)) h2) := hr1.put hlt
            have hi2 := hr2.i
            have htp2 : tpV (w + 1) (ptH w (px b 1000 3 A o p).2.1 (nI (b (px b 1000 3 A o p).2.1)) h2) = nI (b (px b 1000 3 A o p).2.1) := (tpV_s w _).trans (wI_same h2 (152, 0) w (nI (b (px b 1000 3 A o p).2.1)))
            refine g_aload_n (pc' := 74) dX12_pieceOfC_73 rfl rfl ?_
            refine g_iload_n (pc' := 75) dX12_pieceOfC_74 rfl rfl ?_
            refine g_invV (pc' := 78) (cm_puts hok hr1.s hr1.2.2.2.1 hr1.2.1 (by omega) _) dX12_pieceOfC_75 rfl rfl ck_13 rfl ml_X12_292 im_X12_puts sl_X12_puts in_X12 co_X12_puts pd_X12_puts rfl (by omega) (by decide) ⟨by decide, by decide⟩ (Nat.le_of_ble_eq_true rfl) ?_
            rintro _ _ ⟨rfl, rfl⟩ -
            refine g_aload_n (pc' := 79) dX12_pieceOfC_78 rfl rfl ?_
            refine g_invV (pc' := 82) (cm_value hok A hb hr2 ho (isCm_g c60).2.2 htp2 (isCm_g c60).1 (isCm_g c60).2.1) dX12_pieceOfC_79 rfl rfl ck_13 rfl ml_X12_340 im_X12_value sl_X12_value in_X12 co_X12_value pd_X12_value rfl (by omega) (by decide) ⟨by decide, by decide⟩ (Nat.le_of_ble_eq_true rfl) ?_
            rintro _ h3 ⟨rfl, k3, q4, q5, q6⟩ -
            have pr := px_ok hb 1000 3 A o ((px b 1000 3 A o p).2.1 + 1) hi2.2
            have pr1 := pr.1
            have pr2 := pr.2.1
            rcases em3 ((px b 1000 3 A o ((px b 1000 3 A o p).2.1 + 1)).1 = 0) (b (px b 1000 3 A o ((px b 1000 3 A o p).2.1 + 1)).2.1 = 93) with ⟨e3, e4⟩ | ⟨e3, e4⟩ | e3
            ·
              obtain ⟨c2, hc2, hr3, sr3⟩ := q4 e3 e4
              have hi3 := hr3.i
              have htp3 : tpV (w + 1) h3 = nI (b (px b 1000 3 A o p).2.1) := (tpV_k k3).trans htp2
              refine g_aload_n (pc' := 83) dX12_pieceOfC_82 rfl rfl ?_
              refine g_invV (pc' := 86) (cm_good hok hr3.g) dX12_pieceOfC_83 rfl rfl ck_13 rfl ml_X12_271 im_X12_isGood sl_X12_isGood in_X12 co_X12_isGood pd_X12_isGood rfl (by omega) (by decide) ⟨by decide, by decide⟩ (Nat.le_of_ble_eq_true rfl) ?_
              rintro _ _ ⟨rfl, rfl⟩ -
              refine g_if_neN (tgt := 90) (pc' := 89) dX12_pieceOfC_86 rfl (by decide) (by decide) (fun _ => ?_) (fun q => False.elim (by revert q; decide))
              refine g_aload_n (pc' := 91) dX12_pieceOfC_90 rfl rfl ?_
              refine g_aload_n (pc' := 92) dX12_pieceOfC_91 rfl rfl ?_
              refine g_invV (pc' := 95) (cm_top hok hr3.s hr3.2.2.2.1 (by omega) htp3) dX12_pieceOfC_92 rfl rfl ck_13 rfl ml_X12_305 im_X12_top sl_X12_top in_X12 co_X12_top pd_X12_top rfl (by omega) (by decide) ⟨by decide, by decide⟩ (Nat.le_of_ble_eq_true rfl) ?_
              rintro _ _ ⟨rfl, rfl⟩ -
              refine g_iconstN (n := 0) (pc' := 96) dX12_pieceOfC_95 rfl ?_
              refine g_invV (pc' := 99) (cm_emit hok hr3.s hr3.g hr3.2.2.1 (by omega) _ _) dX12_pieceOfC_96 rfl rfl ck_13 rfl ml_X12_314 im_X12_emit sl_X12_emit in_X12 co_X12_emit pd_X12_emit rfl (by omega) (by decide) ⟨by decide, by decide⟩ (Nat.le_of_ble_eq_true rfl) ?_
              rintro _ _ ⟨rfl, rfl⟩ -
              refine g_aload_n (pc' := 100) dX12_pieceOfC_99 rfl rfl ?_
              refine g_dup (pc' := 101) dX12_pieceOfC_100 rfl rfl ?_
              refine g_getIv (v := nI (w + 1)) (pc' := 104) (k := 49) dX12_pieceOfC_101 rfl rfl ck_13 (by decide) fl_X12_278 rfl (hr3.2.2.2.1) ?_
              refine g_iconstN (n := 1) (pc' := 105) dX12_pieceOfC_104 rfl ?_
              refine g_isubN (pc' := 106) dX12_pieceOfC_105 rfl (by omega) ?_
              refine g_putI (pc' := 109) (k := 49) dX12_pieceOfC_106 rfl rfl ck_13 (by decide) fl_X12_278 rfl rfl rfl rfl ?_
              have no4 : NO (popH c2 w (nI (b (px b 1000 3 A o p).2.1)) h3) w o := no.k (((k2.put (Nat.le_refl w)).tr k3 (by omega) (by omega)).pop (by omega)) (Nat.le_refl w)
              refine g_aload_n (pc' := 110) dX12_pieceOfC_109 rfl rfl ?_
              refine g_invV (pc' := 113) (cm_ends (h := popH c2 w (nI (b (px b 1000 3 A o p).2.1)) h3) hok hb hr3.pop no4) dX12_pieceOfC_110 rfl rfl ck_13 rfl ml_X12_346 im_X12_ends sl_X12_ends in_X12 co_X12_ends pd_X12_ends rfl (by omega) (by decide) ⟨by decide, by decide⟩ (Nat.le_of_ble_eq_true rfl) ?_
              rintro _ h5 en -
              obtain ⟨rfl, ken, -⟩ := id en
              refine g_vret dX12_pieceOfC_113 rfl (by decide) (by decide) ?_
              refine hQ _ (hk.tr ((((k2.put (Nat.le_refl w)).tr k3 (by omega) (by omega)).pop (by omega)).tr (ken w) (by omega) (Nat.le_refl w)) (Nat.le_refl c) (Nat.le_refl w)) ⟨0, fun i hi => absurd hi (Nat.not_lt_zero i), ho, Or.inr ⟨npf, ?_⟩⟩
              have ea : cmR b (o + 0) (p + 0) A = (0, (px b 1000 3 A o ((px b 1000 3 A o p).2.1 + 1)).2.1, fBin (b (px b 1000 3 A o p).2.1) (px b 1000 3 A o p).2.2 (px b 1000 3 A o ((px b 1000 3 A o p).2.1 + 1)).2.2) := (bnd_t e1).trans ((cif_t c60).trans (bnd_t e3))
              unfold CMq
              rw [ea]
              refine ⟨fun _ => Or.inl (EnP.ts en ?_), fun z => absurd rfl z⟩
              have kp : YK c2 0 h3 (popH c2 w (nI (b (px b 1000 3 A o p).2.1)) h3) := (YK.rf c2 0 h3).pop (Nat.le_refl c2)
              exact SR.cmp (SRh.k (SRh.k (h := ptH w (px b 1000 3 A o p).2.1 (nI (b (px b 1000 3 A o p).2.1)) h2) sr1 k3 (Nat.le_refl c1)) kp (by omega)) (sr3.k kp (Nat.le_refl c2)) (em_c (a := nI 0)).1 c60
            ·
              have e45 := q5 e3 e4
              have hbad : ¬ h3.1 MO 45 = 0 := by
                rw [e45]
                exact bdv_ne (by omega) (by omega) (by omega)
              refine g_aload_n (pc' := 83) dX12_pieceOfC_82 rfl rfl ?_
              refine g_invV (pc' := 86) (cm_bad hok hbad) dX12_pieceOfC_83 rfl rfl ck_13 rfl ml_X12_271 im_X12_isGood sl_X12_isGood in_X12 co_X12_isGood pd_X12_isGood rfl (by omega) (by decide) ⟨by decide, by decide⟩ (Nat.le_of_ble_eq_true rfl) ?_
              rintro _ _ ⟨rfl, rfl⟩ -
              refine g_if_neN (tgt := 90) (pc' := 89) dX12_pieceOfC_86 rfl (by decide) (by decide) (fun q => False.elim (by revert q; decide)) (fun _ => ?_)
              refine g_vret dX12_pieceOfC_89 rfl (by decide) (by decide) ?_
              refine hQ _ (hk.tr ((k2.put (Nat.le_refl w)).tr k3 (by omega) (by omega)) (Nat.le_refl c) (Nat.le_refl w)) ⟨0, fun i hi => absurd hi (Nat.not_lt_zero i), ho, Or.inr ⟨npf, ?_⟩⟩
              have ea : cmR b (o + 0) (p + 0) A = (0, (px b 1000 3 A o ((px b 1000 3 A o p).2.1 + 1)).2.1, fBin (b (px b 1000 3 A o p).2.1) (px b 1000 3 A o p).2.2 (px b 1000 3 A o ((px b 1000 3 A o p).2.1 + 1)).2.2) := (bnd_t e1).trans ((cif_t c60).trans (bnd_t e3))
              unfold CMq
              rw [ea]
              exact ⟨fun _ => Or.inr ⟨e4, e45⟩, fun z => absurd rfl z⟩
            ·
              have e45 := q6 e3
              have hbad : ¬ h3.1 MO 45 = 0 := by
                rw [e45]
                exact bdv_ne (by omega) (by omega) (by omega)
              refine g_aload_n (pc' := 83) dX12_pieceOfC_82 rfl rfl ?_
              refine g_invV (pc' := 86) (cm_bad hok hbad) dX12_pieceOfC_83 rfl rfl ck_13 rfl ml_X12_271 im_X12_isGood sl_X12_isGood in_X12 co_X12_isGood pd_X12_isGood rfl (by omega) (by decide) ⟨by decide, by decide⟩ (Nat.le_of_ble_eq_true rfl) ?_
              rintro _ _ ⟨rfl, rfl⟩ -
              refine g_if_neN (tgt := 90) (pc' := 89) dX12_pieceOfC_86 rfl (by decide) (by decide) (fun q => False.elim (by revert q; decide)) (fun _ => ?_)
              refine g_vret dX12_pieceOfC_89 rfl (by decide) (by decide) ?_
              refine hQ _ (hk.tr ((k2.put (Nat.le_refl w)).tr k3 (by omega) (by omega)) (Nat.le_refl c) (Nat.le_refl w)) ⟨0, fun i hi => absurd hi (Nat.not_lt_zero i), ho, Or.inr ⟨npf, ?_⟩⟩
              have ea : cmR b (o + 0) (p + 0) A = (px b 1000 3 A o ((px b 1000 3 A o p).2.1 + 1)) := (bnd_t e1).trans ((cif_t c60).trans (bnd_f e3))
              unfold CMq
              rw [ea]
              exact ⟨fun z => absurd z e3, fun _ => e45⟩
          ·
            refine g_aload_n (pc' := 64) dX12_pieceOfC_63 rfl rfl ?_
            refine g_iconstN (n := 1) (pc' := 65) dX12_pieceOfC_64 rfl ?_
            refine g_aload_n (pc' := 66) dX12_pieceOfC_65 rfl rfl ?_
            refine g_getIv (v := nI ((px b 1000 3 A o p).2.1)) (pc' := 69) (k := 43) dX12_pieceOfC_66 rfl rfl ck_13 (by decide) fl_X12_262 rfl (hr1.2.1) ?_
            refine g_invV (pc' := 72) (cm_wrong hok hr1.g 1 (px b 1000 3 A o p).2.1) dX12_pieceOfC_69 rfl rfl ck_13 rfl ml_X12_284 im_X12_wrongs sl_X12_wrongs in_X12 co_X12_wrongs pd_X12_wrongs rfl (by omega) (by decide) ⟨by decide, by decide⟩ (Nat.le_of_ble_eq_true rfl) ?_
            rintro _ _ ⟨rfl, rfl⟩ -
            refine g_vret dX12_pieceOfC_72 rfl (by decide) (by decide) ?_
            refine hQ _ (hk.tr (k2.f rfl) (Nat.le_refl c) (Nat.le_refl w)) ⟨0, fun i hi => absurd hi (Nat.not_lt_zero i), ho, Or.inr ⟨npf, ?_⟩⟩
            have ea : cmR b (o + 0) (p + 0) A = (1, (px b 1000 3 A o p).2.1, (px b 1000 3 A o p).2.2) := (bnd_t e1).trans (cif_f c60)
            unfold CMq
            rw [ea]
            exact ⟨fun z => absurd (show (1 : Nat) = 0 from z) (by decide), fun _ => wI_same _ _ _ _⟩
        ·
          have e45 := q2 e1 e2
          have hbad : ¬ h2.1 MO 45 = 0 := by
            rw [e45]
            exact bdv_ne (by omega) (by omega) (by omega)
          refine g_aload_n (pc' := 44) dX12_pieceOfC_43 rfl rfl ?_
          refine g_invV (pc' := 47) (cm_bad hok hbad) dX12_pieceOfC_44 rfl rfl ck_13 rfl ml_X12_271 im_X12_isGood sl_X12_isGood in_X12 co_X12_isGood pd_X12_isGood rfl (by omega) (by decide) ⟨by decide, by decide⟩ (Nat.le_of_ble_eq_true rfl) ?_
          rintro _ _ ⟨rfl, rfl⟩ -
          refine g_if_neN (tgt := 51) (pc' := 50) dX12_pieceOfC_47 rfl (by decide) (by decide) (fun q => False.elim (by revert q; decide)) (fun _ => ?_)
          refine g_vret dX12_pieceOfC_50 rfl (by decide) (by decide) ?_
          refine hQ _ (hk.tr k2 (Nat.le_refl c) (Nat.le_refl w)) ⟨0, fun i hi => absurd hi (Nat.not_lt_zero i), ho, Or.inr ⟨npf, ?_⟩⟩
          have nc : ¬ isCm (b (px b 1000 3 A o p).2.1) := by rw [e2]; unfold isCm; omega
          have ea : cmR b (o + 0) (p + 0) A = (1, (px b 1000 3 A o p).2.1, (px b 1000 3 A o p).2.2) := (bnd_t e1).trans (cif_f nc)
          unfold CMq
          rw [ea]
          exact ⟨fun z => absurd (show (1 : Nat) = 0 from z) (by decide), fun _ => e45⟩
        ·
          have e45 := q3 e1
          have hbad : ¬ h2.1 MO 45 = 0 := by
            rw [e45]
            exact bdv_ne (by omega) (by omega) (by omega)
          refine g_aload_n (pc' := 44) dX12_pieceOfC_43 rfl rfl ?_
          refine g_invV (pc' := 47) (cm_bad hok hbad) dX12_pieceOfC_44 rfl rfl ck_13 rfl ml_X12_271 im_X12_isGood sl_X12_isGood in_X12 co_X12_isGood pd_X12_isGood rfl (by omega) (by decide) ⟨by decide, by decide⟩ (Nat.le_of_ble_eq_true rfl) ?_
          rintro _ _ ⟨rfl, rfl⟩ -
          refine g_if_neN (tgt := 51) (pc' := 50) dX12_pieceOfC_47 rfl (by decide) (by decide) (fun q => False.elim (by revert q; decide)) (fun _ => ?_)
          refine g_vret dX12_pieceOfC_50 rfl (by decide) (by decide) ?_
          refine hQ _ (hk.tr k2 (Nat.le_refl c) (Nat.le_refl w)) ⟨0, fun i hi => absurd hi (Nat.not_lt_zero i), ho, Or.inr ⟨npf, ?_⟩⟩
          have ea : cmR b (o + 0) (p + 0) A = (px b 1000 3 A o p) := bnd_f e1
          unfold CMq
          rw [ea]
          exact ⟨fun z => absurd z e1, fun _ => e45⟩
      ·
        refine g_aload_n (pc' := 26) dX12_pieceOfC_25 rfl rfl ?_
        refine g_invV (pc' := 29) (cm_opens (w := w) hok hb hr.1 hr.2.1 (by omega) hr.g hr.2.2.2.1 hr.2.2.2.2.1 (by omega) ho) dX12_pieceOfC_26 rfl rfl ck_13 rfl ml_X12_317 im_X12_opens sl_X12_opens in_X12 co_X12_opens pd_X12_opens rfl (by omega) (by decide) ⟨by decide, by decide⟩ (Nat.le_of_ble_eq_true rfl) ?_
        rintro _ _ ⟨rfl, rfl⟩ -
        refine g_goto (tgt := 0) dX12_pieceOfC_29 (by decide) ?_
        have pf : pfx (b p) := by unfold pfx; omega
        have hlt := hb.lt (p := p) (by omega)
        by_cases o6 : o = 6
        · subst o6
          rw [if_pos rfl]
          have e45 : (ptH w p (nI (b p)) (wI (wI h1 MO 45 (bdv 5 p)) MO 48 (nI (6 + 1)))).1 MO 45 = bdv 5 p := by
            unfold ptH
            rw [wI_f (by decide), wI_f (by decide), wI_off _ _ _ _ MO (by decide), wI_f (by decide), wI_same]
          have hbad : ¬ (ptH w p (nI (b p)) (wI (wI h1 MO 45 (bdv 5 p)) MO 48 (nI (6 + 1)))).1 MO 45 = 0 := by
            rw [e45]
            exact bdv_ne (by decide) (by decide) (by omega)
          refine g_aload_n (pc' := 1) dX12_pieceOfC_0 rfl rfl ?_
          refine g_invV (pc' := 4) (cm_bad hok hbad) dX12_pieceOfC_1 rfl rfl ck_13 rfl ml_X12_271 im_X12_isGood sl_X12_isGood in_X12 co_X12_isGood pd_X12_isGood rfl (by omega) (by decide) ⟨by decide, by decide⟩ (Nat.le_of_ble_eq_true rfl) ?_
          rintro _ _ ⟨rfl, rfl⟩ -
          refine g_if_eqN (tgt := 32) (pc' := 7) dX12_pieceOfC_4 rfl (by decide) (by decide) (fun _ => ?_) (fun q => False.elim (by revert q; decide))
          refine g_aload_n (pc' := 33) dX12_pieceOfC_32 rfl rfl ?_
          refine g_invV (pc' := 36) (cm_bad hok hbad) dX12_pieceOfC_33 rfl rfl ck_13 rfl ml_X12_271 im_X12_isGood sl_X12_isGood in_X12 co_X12_isGood pd_X12_isGood rfl (by omega) (by decide) ⟨by decide, by decide⟩ (Nat.le_of_ble_eq_true rfl) ?_
          rintro _ _ ⟨rfl, rfl⟩ -
          refine g_if_eqN (tgt := 43) (pc' := 39) dX12_pieceOfC_36 rfl (by decide) (by decide) (fun _ => ?_) (fun q => False.elim (by revert q; decide))
          refine g_aload_n (pc' := 44) dX12_pieceOfC_43 rfl rfl ?_
          refine g_invV (pc' := 47) (cm_bad hok hbad) dX12_pieceOfC_44 rfl rfl ck_13 rfl ml_X12_271 im_X12_isGood sl_X12_isGood in_X12 co_X12_isGood pd_X12_isGood rfl (by omega) (by decide) ⟨by decide, by decide⟩ (Nat.le_of_ble_eq_true rfl) ?_
          rintro _ _ ⟨rfl, rfl⟩ -
          refine g_if_neN (tgt := 51) (pc' := 50) dX12_pieceOfC_47 rfl (by decide) (by decide) (fun q => False.elim (by revert q; decide)) (fun _ => ?_)
          refine g_vret dX12_pieceOfC_50 rfl (by decide) (by decide) ?_
          exact hQ _ (hk.tr ((((YK.rf c w h1).f rfl).f rfl).put (Nat.le_refl w)) (Nat.le_refl c) (Nat.le_refl w)) ⟨0, fun i hi => absurd hi (Nat.not_lt_zero i), ho, Or.inl ⟨rfl, pf, e45⟩⟩
        · rw [if_neg o6]
          have hr2 : RS b n (p + 1) c (w + 1) (o + 1) (ptH w p (nI (b p)) (wI h1 MO 48 (nI (o + 1)))) := ⟨hr.1.k (((YK.rf 0 0 h1).f rfl).put (Nat.zero_le w)), rfl, hr.2.2.1, rfl, rfl, hr.g, by omega, by omega⟩
          have k1 : YK c w h1 (ptH w p (nI (b p)) (wI h1 MO 48 (nI (o + 1)))) := ((YK.rf c w h1).f rfl).put (Nat.le_refl w)
          have ec : (ptH w p (nI (b p)) (wI h1 MO 48 (nI (o + 1)))).1 (152, 0) w = nI (b p) := wI_same (wI h1 MO 48 (nI (o + 1))) (152, 0) w (nI (b p))
          refine ih (p + 1) (w + 1) (o + 1) (b p) _ _ (by omega) (by omega) (YK.rf _ _ _) hr2 (no.k k1 (Nat.le_refl w)).put1 (pfx_g pf).2.2 ((tpV_s w _).trans ec) ⟨(pfx_g pf).1, (pfx_g pf).2.1⟩ (fun h2 k2 fa => hQ h2 ((hk.tr k1 (Nat.le_refl c) (Nat.le_refl w)).tr k2 (Nat.le_refl c) (Nat.le_succ w)) (FP.cons pf ?_ fa))
          rw [k2.2.2.2.2 w (Nat.lt_succ_self w)]
          exact ec
theorem cm_piece {E : En} (hok : EOK E) {b : Nat → Nat} {n p c w o g : Nat} (A : Mng) {h : Hp} (hb : HB b n) (hr : RS b n p c w o h) (ho : o ≤ 6) (no : NO h w o) (hg : g < 256) (htp : tpV w h = nI g) (hgn : (¬ isTm g ∧ ¬ isPl g) ∧ ¬ g = 91) : Call E m_X12_pieceOfC 5 0 0 [vR MO] h (fun r h' => r = none ∧ YK c w h h' ∧ FP b n A p c w o h') :=
  Call.enter hok (by decide) (Nat.le_of_ble_eq_true rfl) (pi_loop hok A hb (n - p) p w o g h h (Nat.le_refl _) ho (YK.rf _ _ _) hr no hg htp hgn (fun _ k f => ⟨rfl, k, f⟩))
set_option maxRecDepth 4000 in
theorem gb_and {E : En} (hok : EOK E) {h : Hp} {b : Nat → Nat} {n p c c0 w w0 o g : Nat} {A : Mng} (hb : HB b n) (hr : RS b n p c w o h) (hq : QA h c0 c w0 w A) (hg : g < 256) (htp : tpV w0 h = nI g) (hn : ¬ g = 38) (e : b p = 38) : Call E m_X12_goesBehind 3 0 0 [vR MO] h (fun r h' => r = some (vI (nI 1)) ∧ ∃ c', c ≤ c' ∧ RS b n (p + 1) c' (w0 + 1) o h' ∧ YK c w0 h h' ∧ SRh h' c0 c' true A ∧ h'.1 (152, 0) w0 = nI (b p)) := by
  have hb1 := hb.1
  have h256 := hb.2.1 p
  have hi := hr.i
  have hp4 : p ≤ 400 := by omega
  refine Call.enter hok (by decide) (Nat.le_of_ble_eq_true rfl) ?_
  show G E m_X12_goesBehind 3 0 0 _ h 0 [some (vR MO), none] [] h 0 0
  refine g_aload_n (pc' := 1) dX12_goesBehind_0 rfl rfl ?_
  refine g_invV (pc' := 4) (cm_here hok hb hr.1 hr.2.1 hp4) dX12_goesBehind_1 rfl rfl ck_13 rfl ml_X12_288 im_X12_here sl_X12_here in_X12 co_X12_here pd_X12_here rfl (by omega) (by decide) ⟨by decide, by decide⟩ (Nat.le_of_ble_eq_true rfl) ?_
  rintro _ _ ⟨rfl, rfl⟩ -
  refine g_istore_n (pc' := 5) dX12_goesBehind_4 rfl (by decide) rfl ?_
  try simp only [List.set]
  refine g_iload_n (pc' := 6) dX12_goesBehind_5 rfl rfl ?_
  refine g_bipushN (n := 38) (pc' := 8) dX12_goesBehind_6 rfl (by decide) ?_
  refine g_icmp_eqN (tgt := 17) (pc' := 11) dX12_goesBehind_8 rfl (by decide) (by omega) (by omega) (fun c8 => ?_) (fun c8 => ?_)
  ·
    refine g_aload_n (pc' := 18) dX12_goesBehind_17 rfl rfl ?_
    refine g_iload_n (pc' := 19) dX12_goesBehind_18 rfl rfl ?_
    refine g_bipushN (n := 124) (pc' := 21) dX12_goesBehind_19 rfl (by decide) ?_
    refine g_icmp_neN (tgt := 28) (pc' := 24) dX12_goesBehind_21 rfl (by decide) (by omega) (by omega) (fun c21 => ?_) (fun c21 => ?_)
    ·
      refine g_iconstN (n := 0) (pc' := 29) dX12_goesBehind_28 rfl ?_
      refine g_invV (pc' := 32) (cm_joins0 hok hb hr hq hg htp hn) dX12_goesBehind_29 rfl rfl ck_13 rfl ml_X12_349 im_X12_joins sl_X12_joins in_X12 co_X12_joins pd_X12_joins rfl (by omega) (by decide) ⟨by decide, by decide⟩ (Nat.le_of_ble_eq_true rfl) ?_
      rintro _ h1 ⟨rfl, c1, hc1, hr1, k1, sr1⟩ -
      have hi1 := hr1.i
      refine g_aload_n (pc' := 33) dX12_goesBehind_32 rfl rfl ?_
      refine g_iload_n (pc' := 34) dX12_goesBehind_33 rfl rfl ?_
      refine g_invV (pc' := 37) (cm_puts hok hr1.s hr1.2.2.2.1 hr1.2.1 (by omega) _) dX12_goesBehind_34 rfl rfl ck_13 rfl ml_X12_292 im_X12_puts sl_X12_puts in_X12 co_X12_puts pd_X12_puts rfl (by omega) (by decide) ⟨by decide, by decide⟩ (Nat.le_of_ble_eq_true rfl) ?_
      rintro _ _ ⟨rfl, rfl⟩ -
      refine g_iconstN (n := 1) (pc' := 38) dX12_goesBehind_37 rfl ?_
      refine g_zret dX12_goesBehind_38 rfl (by rfl) (by decide) (by decide) ?_
      exact ⟨rfl, c1, hc1, hr1.put (hb.lt (p := p) (by omega)), k1.put (Nat.le_refl w0), sr1, wI_same h1 (152, 0) w0 (nI (b p))⟩
    · exact absurd c21 (by omega)
  · exact absurd e c8
set_option maxRecDepth 4000 in
theorem gb_or {E : En} (hok : EOK E) {h : Hp} {b : Nat → Nat} {n p c c0 w w0 o g : Nat} {A : Mng} (hb : HB b n) (hr : RS b n p c w o h) (hq : QO h c0 c w0 w A) (hg : g < 256) (htp : tpV w0 h = nI g) (hn : ¬ g = 38 ∧ ¬ g = 124) (e : b p = 124) : Call E m_X12_goesBehind 3 0 0 [vR MO] h (fun r h' => r = some (vI (nI 1)) ∧ ∃ c', c ≤ c' ∧ RS b n (p + 1) c' (w0 + 1) o h' ∧ YK c w0 h h' ∧ SRh h' c0 c' true A ∧ h'.1 (152, 0) w0 = nI (b p)) := by
  have hb1 := hb.1
  have h256 := hb.2.1 p
  have hi := hr.i
  have hp4 : p ≤ 400 := by omega
  refine Call.enter hok (by decide) (Nat.le_of_ble_eq_true rfl) ?_
  show G E m_X12_goesBehind 3 0 0 _ h 0 [some (vR MO), none] [] h 0 0
  refine g_aload_n (pc' := 1) dX12_goesBehind_0 rfl rfl ?_
  refine g_invV (pc' := 4) (cm_here hok hb hr.1 hr.2.1 hp4) dX12_goesBehind_1 rfl rfl ck_13 rfl ml_X12_288 im_X12_here sl_X12_here in_X12 co_X12_here pd_X12_here rfl (by omega) (by decide) ⟨by decide, by decide⟩ (Nat.le_of_ble_eq_true rfl) ?_
  rintro _ _ ⟨rfl, rfl⟩ -
  refine g_istore_n (pc' := 5) dX12_goesBehind_4 rfl (by decide) rfl ?_
  try simp only [List.set]
  refine g_iload_n (pc' := 6) dX12_goesBehind_5 rfl rfl ?_
  refine g_bipushN (n := 38) (pc' := 8) dX12_goesBehind_6 rfl (by decide) ?_
  refine g_icmp_eqN (tgt := 17) (pc' := 11) dX12_goesBehind_8 rfl (by decide) (by omega) (by omega) (fun c8 => ?_) (fun c8 => ?_)
  · exact absurd c8 (by omega)
  ·
    refine g_iload_n (pc' := 12) dX12_goesBehind_11 rfl rfl ?_
    refine g_bipushN (n := 124) (pc' := 14) dX12_goesBehind_12 rfl (by decide) ?_
    refine g_icmp_neN (tgt := 39) (pc' := 17) dX12_goesBehind_14 rfl (by decide) (by omega) (by omega) (fun c14 => ?_) (fun c14 => ?_)
    · exact absurd e c14
    ·
      refine g_aload_n (pc' := 18) dX12_goesBehind_17 rfl rfl ?_
      refine g_iload_n (pc' := 19) dX12_goesBehind_18 rfl rfl ?_
      refine g_bipushN (n := 124) (pc' := 21) dX12_goesBehind_19 rfl (by decide) ?_
      refine g_icmp_neN (tgt := 28) (pc' := 24) dX12_goesBehind_21 rfl (by decide) (by omega) (by omega) (fun c21 => ?_) (fun c21 => ?_)
      · exact absurd e c21
      ·
        refine g_iconstN (n := 1) (pc' := 25) dX12_goesBehind_24 rfl ?_
        refine g_goto (tgt := 29) dX12_goesBehind_25 (by decide) ?_
        refine g_invV (pc' := 32) (cm_joins1 hok hb hr hq hg htp hn) dX12_goesBehind_29 rfl rfl ck_13 rfl ml_X12_349 im_X12_joins sl_X12_joins in_X12 co_X12_joins pd_X12_joins rfl (by omega) (by decide) ⟨by decide, by decide⟩ (Nat.le_of_ble_eq_true rfl) ?_
        rintro _ h1 ⟨rfl, c1, hc1, hr1, k1, sr1⟩ -
        have hi1 := hr1.i
        refine g_aload_n (pc' := 33) dX12_goesBehind_32 rfl rfl ?_
        refine g_iload_n (pc' := 34) dX12_goesBehind_33 rfl rfl ?_
        refine g_invV (pc' := 37) (cm_puts hok hr1.s hr1.2.2.2.1 hr1.2.1 (by omega) _) dX12_goesBehind_34 rfl rfl ck_13 rfl ml_X12_292 im_X12_puts sl_X12_puts in_X12 co_X12_puts pd_X12_puts rfl (by omega) (by decide) ⟨by decide, by decide⟩ (Nat.le_of_ble_eq_true rfl) ?_
        rintro _ _ ⟨rfl, rfl⟩ -
        refine g_iconstN (n := 1) (pc' := 38) dX12_goesBehind_37 rfl ?_
        refine g_zret dX12_goesBehind_38 rfl (by rfl) (by decide) (by decide) ?_
        exact ⟨rfl, c1, hc1, hr1.put (hb.lt (p := p) (by omega)), k1.put (Nat.le_refl w0), sr1, wI_same h1 (152, 0) w0 (nI (b p))⟩
set_option maxRecDepth 4000 in
theorem gb_bad {E : En} (hok : EOK E) {h : Hp} {b : Nat → Nat} {n p c w o : Nat} (hb : HB b n) (hr : RS b n p c w o h) (n38 : ¬ b p = 38) (n124 : ¬ b p = 124) (n41 : ¬ b p = 41) : Call E m_X12_goesBehind 3 0 0 [vR MO] h (fun r h' => r = some (vI (nI 0)) ∧ YK c w h h' ∧ h'.1 MO 45 = bdv 1 p) := by
  have hb1 := hb.1
  have h256 := hb.2.1 p
  have hi := hr.i
  have hp4 : p ≤ 400 := by omega
  refine Call.enter hok (by decide) (Nat.le_of_ble_eq_true rfl) ?_
  show G E m_X12_goesBehind 3 0 0 _ h 0 [some (vR MO), none] [] h 0 0
  refine g_aload_n (pc' := 1) dX12_goesBehind_0 rfl rfl ?_
  refine g_invV (pc' := 4) (cm_here hok hb hr.1 hr.2.1 hp4) dX12_goesBehind_1 rfl rfl ck_13 rfl ml_X12_288 im_X12_here sl_X12_here in_X12 co_X12_here pd_X12_here rfl (by omega) (by decide) ⟨by decide, by decide⟩ (Nat.le_of_ble_eq_true rfl) ?_
  rintro _ _ ⟨rfl, rfl⟩ -
  refine g_istore_n (pc' := 5) dX12_goesBehind_4 rfl (by decide) rfl ?_
  try simp only [List.set]
  refine g_iload_n (pc' := 6) dX12_goesBehind_5 rfl rfl ?_
  refine g_bipushN (n := 38) (pc' := 8) dX12_goesBehind_6 rfl (by decide) ?_
  refine g_icmp_eqN (tgt := 17) (pc' := 11) dX12_goesBehind_8 rfl (by decide) (by omega) (by omega) (fun c8 => ?_) (fun c8 => ?_)
  · exact absurd c8 (by omega)
  ·
    refine g_iload_n (pc' := 12) dX12_goesBehind_11 rfl rfl ?_
    refine g_bipushN (n := 124) (pc' := 14) dX12_goesBehind_12 rfl (by decide) ?_
    refine g_icmp_neN (tgt := 39) (pc' := 17) dX12_goesBehind_14 rfl (by decide) (by omega) (by omega) (fun c14 => ?_) (fun c14 => ?_)
    ·
      refine g_iload_n (pc' := 40) dX12_goesBehind_39 rfl rfl ?_
      refine g_bipushN (n := 41) (pc' := 42) dX12_goesBehind_40 rfl (by decide) ?_
      refine g_icmp_eqN (tgt := 56) (pc' := 45) dX12_goesBehind_42 rfl (by decide) (by omega) (by omega) (fun c42 => ?_) (fun c42 => ?_)
      · exact absurd c42 n41
      ·
        refine g_aload_n (pc' := 46) dX12_goesBehind_45 rfl rfl ?_
        refine g_iconstN (n := 1) (pc' := 47) dX12_goesBehind_46 rfl ?_
        refine g_aload_n (pc' := 48) dX12_goesBehind_47 rfl rfl ?_
        refine g_getIv (v := nI (p)) (pc' := 51) (k := 43) dX12_goesBehind_48 rfl rfl ck_13 (by decide) fl_X12_262 rfl (hr.2.1) ?_
        refine g_invV (pc' := 54) (cm_wrong hok hr.g 1 p) dX12_goesBehind_51 rfl rfl ck_13 rfl ml_X12_284 im_X12_wrongs sl_X12_wrongs in_X12 co_X12_wrongs pd_X12_wrongs rfl (by omega) (by decide) ⟨by decide, by decide⟩ (Nat.le_of_ble_eq_true rfl) ?_
        rintro _ _ ⟨rfl, rfl⟩ -
        refine g_iconstN (n := 0) (pc' := 55) dX12_goesBehind_54 rfl ?_
        refine g_zret dX12_goesBehind_55 rfl (by rfl) (by decide) (by decide) ?_
        exact ⟨rfl, (YK.rf c w h).f rfl, wI_same _ _ _ _⟩
    · exact absurd c14 (by omega)
set_option maxRecDepth 4000 in
theorem gb_over {E : En} (hok : EOK E) {h : Hp} {b : Nat → Nat} {n p c c0 w w0 o g : Nat} {A : Mng} (hb : HB b n) (hr : RS b n p c w o h) (hq : QO h c0 c w0 w A) (hg : g < 256) (htp : tpV w0 h = nI g) (hn : ¬ g = 38 ∧ ¬ g = 124) (e : b p = 41) {o1 : Nat} (ew : w0 = 1) (eo : o = o1 + 1) : Call E m_X12_goesBehind 3 0 0 [vR MO] h (fun r h' => r = some (vI (nI 0)) ∧ ∃ c', c ≤ c' ∧ RS b n (p + 1) c' 0 o1 h' ∧ SRh h' c0 c' true A ∧ h'.1 MO 50 = nI 1 ∧ ∃ h2, YK c 0 h h2 ∧ h' = wI h2 MO 50 (nI 1)) := by
  have hb1 := hb.1
  have h256 := hb.2.1 p
  have hi := hr.i
  have hp4 : p ≤ 400 := by omega
  refine Call.enter hok (by decide) (Nat.le_of_ble_eq_true rfl) ?_
  show G E m_X12_goesBehind 3 0 0 _ h 0 [some (vR MO), none] [] h 0 0
  refine g_aload_n (pc' := 1) dX12_goesBehind_0 rfl rfl ?_
  refine g_invV (pc' := 4) (cm_here hok hb hr.1 hr.2.1 hp4) dX12_goesBehind_1 rfl rfl ck_13 rfl ml_X12_288 im_X12_here sl_X12_here in_X12 co_X12_here pd_X12_here rfl (by omega) (by decide) ⟨by decide, by decide⟩ (Nat.le_of_ble_eq_true rfl) ?_
  rintro _ _ ⟨rfl, rfl⟩ -
  refine g_istore_n (pc' := 5) dX12_goesBehind_4 rfl (by decide) rfl ?_
  try simp only [List.set]
  refine g_iload_n (pc' := 6) dX12_goesBehind_5 rfl rfl ?_
  refine g_bipushN (n := 38) (pc' := 8) dX12_goesBehind_6 rfl (by decide) ?_
  refine g_icmp_eqN (tgt := 17) (pc' := 11) dX12_goesBehind_8 rfl (by decide) (by omega) (by omega) (fun c8 => ?_) (fun c8 => ?_)
  · exact absurd c8 (by omega)
  ·
    refine g_iload_n (pc' := 12) dX12_goesBehind_11 rfl rfl ?_
    refine g_bipushN (n := 124) (pc' := 14) dX12_goesBehind_12 rfl (by decide) ?_
    refine g_icmp_neN (tgt := 39) (pc' := 17) dX12_goesBehind_14 rfl (by decide) (by omega) (by omega) (fun c14 => ?_) (fun c14 => ?_)
    ·
      refine g_iload_n (pc' := 40) dX12_goesBehind_39 rfl rfl ?_
      refine g_bipushN (n := 41) (pc' := 42) dX12_goesBehind_40 rfl (by decide) ?_
      refine g_icmp_eqN (tgt := 56) (pc' := 45) dX12_goesBehind_42 rfl (by decide) (by omega) (by omega) (fun c42 => ?_) (fun c42 => ?_)
      ·
        refine g_aload_n (pc' := 57) dX12_goesBehind_56 rfl rfl ?_
        refine g_iconstN (n := 1) (pc' := 58) dX12_goesBehind_57 rfl ?_
        refine g_invV (pc' := 61) (cm_joins1 hok hb hr hq hg htp hn) dX12_goesBehind_58 rfl rfl ck_13 rfl ml_X12_349 im_X12_joins sl_X12_joins in_X12 co_X12_joins pd_X12_joins rfl (by omega) (by decide) ⟨by decide, by decide⟩ (Nat.le_of_ble_eq_true rfl) ?_
        rintro _ h1 ⟨rfl, c1, hc1, hr1, k1, sr1⟩ -
        have hi1 := hr1.i
        subst ew
        subst eo
        refine g_aload_n (pc' := 62) dX12_goesBehind_61 rfl rfl ?_
        refine g_dup (pc' := 63) dX12_goesBehind_62 rfl rfl ?_
        refine g_getIv (v := nI (0 + 1)) (pc' := 66) (k := 49) dX12_goesBehind_63 rfl rfl ck_13 (by decide) fl_X12_278 rfl (hr1.2.2.2.1) ?_
        refine g_iconstN (n := 1) (pc' := 67) dX12_goesBehind_66 rfl ?_
        refine g_isubN (pc' := 68) dX12_goesBehind_67 rfl (by omega) ?_
        refine g_putI (pc' := 71) (k := 49) dX12_goesBehind_68 rfl rfl ck_13 (by decide) fl_X12_278 rfl rfl rfl rfl ?_
        refine g_aload_n (pc' := 72) dX12_goesBehind_71 rfl rfl ?_
        refine g_dup (pc' := 73) dX12_goesBehind_72 rfl rfl ?_
        refine g_getIv (v := nI (o1 + 1)) (pc' := 76) (k := 48) dX12_goesBehind_73 rfl rfl ck_13 (by decide) fl_X12_281 rfl (hr1.2.2.2.2.1) ?_
        refine g_iconstN (n := 1) (pc' := 77) dX12_goesBehind_76 rfl ?_
        refine g_isubN (pc' := 78) dX12_goesBehind_77 rfl (by omega) ?_
        refine g_putI (pc' := 81) (k := 48) dX12_goesBehind_78 rfl rfl ck_13 (by decide) fl_X12_281 rfl rfl rfl rfl ?_
        refine g_aload_n (pc' := 82) dX12_goesBehind_81 rfl rfl ?_
        refine g_dup (pc' := 83) dX12_goesBehind_82 rfl rfl ?_
        refine g_getIv (v := nI (p)) (pc' := 86) (k := 43) dX12_goesBehind_83 rfl rfl ck_13 (by decide) fl_X12_262 rfl (hr1.2.1) ?_
        refine g_iconstN (n := 1) (pc' := 87) dX12_goesBehind_86 rfl ?_
        refine g_iaddN (pc' := 88) dX12_goesBehind_87 rfl ?_
        refine g_putI (pc' := 91) (k := 43) dX12_goesBehind_88 rfl rfl ck_13 (by decide) fl_X12_262 rfl rfl rfl rfl ?_
        refine g_aload_n (pc' := 92) dX12_goesBehind_91 rfl rfl ?_
        refine g_aload_n (pc' := 93) dX12_goesBehind_92 rfl rfl ?_
        refine g_getIv (v := nI (0)) (pc' := 96) (k := 49) dX12_goesBehind_93 rfl rfl ck_13 (by decide) fl_X12_278 rfl (rfl) ?_
        refine g_if_neN (tgt := 103) (pc' := 99) dX12_goesBehind_96 rfl (by decide) (by decide) (fun q => False.elim (by revert q; decide)) (fun _ => ?_)
        refine g_iconstN (n := 1) (pc' := 100) dX12_goesBehind_99 rfl ?_
        refine g_goto (tgt := 104) dX12_goesBehind_100 (by decide) ?_
        refine g_putI (pc' := 107) (k := 50) dX12_goesBehind_104 rfl rfl ck_13 (by decide) fl_X12_352 rfl rfl (by rfl) (by rfl) ?_
        refine g_aload_n (pc' := 108) dX12_goesBehind_107 rfl rfl ?_
        refine g_getIv (v := nI (1)) (pc' := 111) (k := 50) dX12_goesBehind_108 rfl rfl ck_13 (by decide) fl_X12_352 rfl (rfl) ?_
        refine g_if_neN (tgt := 118) (pc' := 114) dX12_goesBehind_111 rfl (by decide) (by decide) (fun _ => ?_) (fun q => False.elim (by revert q; decide))
        refine g_iconstN (n := 0) (pc' := 119) dX12_goesBehind_118 rfl ?_
        refine g_zret dX12_goesBehind_119 rfl (by rfl) (by decide) (by decide) ?_
        have hlt := hb.lt (p := p) (by omega)
        exact ⟨rfl, c1, hc1, ⟨RT.w50 (hr1.1.k ((((YK.rf 0 0 h1).f rfl).f rfl).f rfl)), rfl, hr1.2.2.1, rfl, rfl, hr1.g, by omega, by omega⟩, sr1, rfl, _, (((k1.le (Nat.le_refl c) (Nat.zero_le _)).f rfl).f rfl).f rfl, rfl⟩
      · exact absurd e c42
    · exact absurd c14 (by omega)
set_option maxRecDepth 4000 in
theorem gb_cl {E : En} (hok : EOK E) {h : Hp} {b : Nat → Nat} {n p c c0 w w0 o g : Nat} {A : Mng} (hb : HB b n) (hr : RS b n p c w o h) (hq : QO h c0 c w0 w A) (hg : g < 256) (htp : tpV w0 h = nI g) (hn : ¬ g = 38 ∧ ¬ g = 124) (e : b p = 41) {w2 o1 : Nat} (ew : w0 = w2 + 1 + 1) (eo : o = o1 + 1) (e50 : h.1 MO 50 = nI 0) (no : NO h (w2 + 1) o1) : Call E m_X12_goesBehind 3 0 0 [vR MO] h (fun r h' => r = some (vI (nI 0)) ∧ YK c (w2 + 1) h h' ∧ TS b n (p + 1) c0 (w2 + 1) o1 A h') := by
  have hb1 := hb.1
  have h256 := hb.2.1 p
  have hi := hr.i
  have hp4 : p ≤ 400 := by omega
  refine Call.enter hok (by decide) (Nat.le_of_ble_eq_true rfl) ?_
  show G E m_X12_goesBehind 3 0 0 _ h 0 [some (vR MO), none] [] h 0 0
  refine g_aload_n (pc' := 1) dX12_goesBehind_0 rfl rfl ?_
  refine g_invV (pc' := 4) (cm_here hok hb hr.1 hr.2.1 hp4) dX12_goesBehind_1 rfl rfl ck_13 rfl ml_X12_288 im_X12_here sl_X12_here in_X12 co_X12_here pd_X12_here rfl (by omega) (by decide) ⟨by decide, by decide⟩ (Nat.le_of_ble_eq_true rfl) ?_
  rintro _ _ ⟨rfl, rfl⟩ -
  refine g_istore_n (pc' := 5) dX12_goesBehind_4 rfl (by decide) rfl ?_
  try simp only [List.set]
  refine g_iload_n (pc' := 6) dX12_goesBehind_5 rfl rfl ?_
  refine g_bipushN (n := 38) (pc' := 8) dX12_goesBehind_6 rfl (by decide) ?_
  refine g_icmp_eqN (tgt := 17) (pc' := 11) dX12_goesBehind_8 rfl (by decide) (by omega) (by omega) (fun c8 => ?_) (fun c8 => ?_)
  · exact absurd c8 (by omega)
  ·
    refine g_iload_n (pc' := 12) dX12_goesBehind_11 rfl rfl ?_
    refine g_bipushN (n := 124) (pc' := 14) dX12_goesBehind_12 rfl (by decide) ?_
    refine g_icmp_neN (tgt := 39) (pc' := 17) dX12_goesBehind_14 rfl (by decide) (by omega) (by omega) (fun c14 => ?_) (fun c14 => ?_)
    ·
      refine g_iload_n (pc' := 40) dX12_goesBehind_39 rfl rfl ?_
      refine g_bipushN (n := 41) (pc' := 42) dX12_goesBehind_40 rfl (by decide) ?_
      refine g_icmp_eqN (tgt := 56) (pc' := 45) dX12_goesBehind_42 rfl (by decide) (by omega) (by omega) (fun c42 => ?_) (fun c42 => ?_)
      ·
        refine g_aload_n (pc' := 57) dX12_goesBehind_56 rfl rfl ?_
        refine g_iconstN (n := 1) (pc' := 58) dX12_goesBehind_57 rfl ?_
        refine g_invV (pc' := 61) (cm_joins1 hok hb hr hq hg htp hn) dX12_goesBehind_58 rfl rfl ck_13 rfl ml_X12_349 im_X12_joins sl_X12_joins in_X12 co_X12_joins pd_X12_joins rfl (by omega) (by decide) ⟨by decide, by decide⟩ (Nat.le_of_ble_eq_true rfl) ?_
        rintro _ h1 ⟨rfl, c1, hc1, hr1, k1, sr1⟩ -
        have hi1 := hr1.i
        subst ew
        subst eo
        refine g_aload_n (pc' := 62) dX12_goesBehind_61 rfl rfl ?_
        refine g_dup (pc' := 63) dX12_goesBehind_62 rfl rfl ?_
        refine g_getIv (v := nI (w2 + 1 + 1)) (pc' := 66) (k := 49) dX12_goesBehind_63 rfl rfl ck_13 (by decide) fl_X12_278 rfl (hr1.2.2.2.1) ?_
        refine g_iconstN (n := 1) (pc' := 67) dX12_goesBehind_66 rfl ?_
        refine g_isubN (pc' := 68) dX12_goesBehind_67 rfl (by omega) ?_
        refine g_putI (pc' := 71) (k := 49) dX12_goesBehind_68 rfl rfl ck_13 (by decide) fl_X12_278 rfl rfl rfl rfl ?_
        refine g_aload_n (pc' := 72) dX12_goesBehind_71 rfl rfl ?_
        refine g_dup (pc' := 73) dX12_goesBehind_72 rfl rfl ?_
        refine g_getIv (v := nI (o1 + 1)) (pc' := 76) (k := 48) dX12_goesBehind_73 rfl rfl ck_13 (by decide) fl_X12_281 rfl (hr1.2.2.2.2.1) ?_
        refine g_iconstN (n := 1) (pc' := 77) dX12_goesBehind_76 rfl ?_
        refine g_isubN (pc' := 78) dX12_goesBehind_77 rfl (by omega) ?_
        refine g_putI (pc' := 81) (k := 48) dX12_goesBehind_78 rfl rfl ck_13 (by decide) fl_X12_281 rfl rfl rfl rfl ?_
        refine g_aload_n (pc' := 82) dX12_goesBehind_81 rfl rfl ?_
        refine g_dup (pc' := 83) dX12_goesBehind_82 rfl rfl ?_
        refine g_getIv (v := nI (p)) (pc' := 86) (k := 43) dX12_goesBehind_83 rfl rfl ck_13 (by decide) fl_X12_262 rfl (hr1.2.1) ?_
        refine g_iconstN (n := 1) (pc' := 87) dX12_goesBehind_86 rfl ?_
        refine g_iaddN (pc' := 88) dX12_goesBehind_87 rfl ?_
        refine g_putI (pc' := 91) (k := 43) dX12_goesBehind_88 rfl rfl ck_13 (by decide) fl_X12_262 rfl rfl rfl rfl ?_
        refine g_aload_n (pc' := 92) dX12_goesBehind_91 rfl rfl ?_
        refine g_aload_n (pc' := 93) dX12_goesBehind_92 rfl rfl ?_
        refine g_getIv (v := nI (w2 + 1)) (pc' := 96) (k := 49) dX12_goesBehind_93 rfl rfl ck_13 (by decide) fl_X12_278 rfl (rfl) ?_
        refine g_if_neN (tgt := 103) (pc' := 99) dX12_goesBehind_96 rfl (by decide) (by omega) (fun c96 => ?_) (fun c96 => ?_)
        ·
          refine g_iconstN (n := 0) (pc' := 104) dX12_goesBehind_103 rfl ?_
          refine g_putI (pc' := 107) (k := 50) dX12_goesBehind_104 rfl rfl ck_13 (by decide) fl_X12_352 rfl rfl (by rfl) (by rfl) ?_
          refine g_aload_n (pc' := 108) dX12_goesBehind_107 rfl rfl ?_
          refine g_getIv (v := nI (0)) (pc' := 111) (k := 50) dX12_goesBehind_108 rfl rfl ck_13 (by decide) fl_X12_352 rfl (rfl) ?_
          refine g_if_neN (tgt := 118) (pc' := 114) dX12_goesBehind_111 rfl (by decide) (by decide) (fun q => False.elim (by revert q; decide)) (fun _ => ?_)
          have hlt := hb.lt (p := p) (by omega)
          have hrY : RS b n (p + 1) c1 (w2 + 1) o1 (wI (wI (wI (wI h1 MO 49 (nI (w2 + 1 + 1 - 1))) MO 48 (nI (o1 + 1 - 1))) MO 43 (nI (p + 1))) MO 50 (nI 0)) := ⟨RT.w50 (hr1.1.k ((((YK.rf 0 0 h1).f rfl).f rfl).f rfl)), rfl, hr1.2.2.1, rfl, rfl, hr1.g, by omega, by omega⟩
          have kY : YK c (w2 + 1) h (wI (wI (wI (wI h1 MO 49 (nI (w2 + 1 + 1 - 1))) MO 48 (nI (o1 + 1 - 1))) MO 43 (nI (p + 1))) MO 50 (nI 0)) := YK.o ((((k1.le (Nat.le_refl c) (Nat.le_succ _)).f rfl).f rfl).f rfl) e50
          have noY : NO (wI (wI (wI (wI h1 MO 49 (nI (w2 + 1 + 1 - 1))) MO 48 (nI (o1 + 1 - 1))) MO 43 (nI (p + 1))) MO 50 (nI 0)) (w2 + 1) o1 := no.k kY (Nat.le_refl _)
          refine g_aload_n (pc' := 115) dX12_goesBehind_114 rfl rfl ?_
          refine g_invV (pc' := 118) (cm_ends (h := (wI (wI (wI (wI h1 MO 49 (nI (w2 + 1 + 1 - 1))) MO 48 (nI (o1 + 1 - 1))) MO 43 (nI (p + 1))) MO 50 (nI 0))) (w := w2 + 1) (o := o1) hok hb hrY noY) dX12_goesBehind_115 rfl rfl ck_13 rfl ml_X12_346 im_X12_ends sl_X12_ends in_X12 co_X12_ends pd_X12_ends rfl (by omega) (by decide) ⟨by decide, by decide⟩ (Nat.le_of_ble_eq_true rfl) ?_
          rintro _ h5 en -
          obtain ⟨rfl, ken, -⟩ := id en
          refine g_iconstN (n := 0) (pc' := 119) dX12_goesBehind_118 rfl ?_
          refine g_zret dX12_goesBehind_119 rfl (by rfl) (by decide) (by decide) ?_
          exact ⟨rfl, kY.tr (ken (w2 + 1)) hc1 (Nat.le_refl _), EnP.ts en sr1⟩
        · exact absurd c96 (by omega)
      · exact absurd e c42
    · exact absurd c14 (by omega)
