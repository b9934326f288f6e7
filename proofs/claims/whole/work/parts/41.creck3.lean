theorem CT.rk {m : St} {R : Rm} {ti a : Nat} {h h' : Hp} (c : CT m h R ti) (k : Rk a h h') : CT m h' R ti := by
  have e6 := k.2.1 (6, ti) (ad_ne (show (6 : Nat) ≠ 7 by decide)) (ad_ne (show (6 : Nat) ≠ 43 by decide))
  have e35 := k.2.1 (35, ti) (ad_ne (show (35 : Nat) ≠ 7 by decide)) (ad_ne (show (35 : Nat) ≠ 43 by decide))
  have e36 := k.2.1 (36, ti) (ad_ne (show (36 : Nat) ≠ 7 by decide)) (ad_ne (show (36 : Nat) ≠ 43 by decide))
  have e37 := k.2.1 (37, ti) (ad_ne (show (37 : Nat) ≠ 7 by decide)) (ad_ne (show (37 : Nat) ≠ 43 by decide))
  have e38 := k.2.1 (38, ti) (ad_ne (show (38 : Nat) ≠ 7 by decide)) (ad_ne (show (38 : Nat) ≠ 43 by decide))
  have e39 := k.2.1 (39, ti) (ad_ne (show (39 : Nat) ≠ 7 by decide)) (ad_ne (show (39 : Nat) ≠ 43 by decide))
  have e40 := k.2.1 (40, ti) (ad_ne (show (40 : Nat) ≠ 7 by decide)) (ad_ne (show (40 : Nat) ≠ 43 by decide))
  unfold CT at *
  rw [e6, e35, e36, e37, e38, e39, e40]
  exact c
/-- what the class's rules stand on -/
def Tq (m : St) (R : Rm) (e : Nat → Int32) (ti : Nat) (h : Hp) : Prop := Shp h.2 ∧ h.2.1 (7, 0) 2 = some (6, ti) ∧ CT m h R ti ∧ ∀ l, isLt l → h.1 (42, 0) (l - 97) = e l
theorem Tq.rk {m : St} {R : Rm} {e : Nat → Int32} {ti a : Nat} {h h' : Hp} (q : Tq m R e ti h) (k : Rk a h h') : Tq m R e ti h' := ⟨by rw [k.1]; exact q.1, by rw [k.1]; exact q.2.1, q.2.2.1.rk k, fun l hl => by rw [k.2.1 (42, 0) (by decide) (by decide)]; exact q.2.2.2 l hl⟩
theorem Tq.rq {m : St} {R : Rm} {e : Nat → Int32} {ti : Nat} {h : Hp} (q : Tq m R e ti h) : Rq (h.1 (35, ti)) (h.1 (36, ti)) e ti h := ⟨q.1, q.2.1, fun _ => rfl, fun _ => rfl, q.2.2.2⟩
theorem isB_g {v : Option Int32} (h : isB v) : ¬ v.getD 0 = 0 ↔ v = some 1 := by
  rcases h with h | h | h <;> rw [h]
  · exact ⟨fun z => absurd rfl z, fun z => by cases z⟩
  · exact ⟨fun z => absurd rfl z, fun z => absurd (Option.some.inj z) (by decide)⟩
  · exact ⟨fun _ => rfl, fun _ => by decide⟩
theorem clp_eq {lo up : Int32} (hl : lo ≤ up) (v : Option Int32) : (if lo < (if v.getD 0 < up then v.getD 0 else up) then (if v.getD 0 < up then v.getD 0 else up) else lo) = clp lo up v := by
  unfold clp
  generalize v.getD 0 = x
  simp only [Int32.lt_iff_toInt_lt, Int32.le_iff_toInt_le] at *
  by_cases a : x.toInt < up.toInt
  · rw [if_pos a]
    by_cases b : lo.toInt < x.toInt
    · rw [if_pos b, if_neg (by omega), if_neg (by omega)]
    · rw [if_neg b]
      by_cases c : x.toInt < lo.toInt
      · rw [if_pos c]
      · rw [if_neg c, if_neg (by omega)]
        exact Int32.toInt_inj.mp (by omega)
  · rw [if_neg a]
    by_cases b : lo.toInt < up.toInt
    · rw [if_pos b, if_neg (by omega)]
      by_cases c : up.toInt < x.toInt
      · rw [if_pos c]
      · rw [if_neg c]
        exact Int32.toInt_inj.mp (by omega)
    · rw [if_neg b]
      by_cases c : x.toInt < lo.toInt
      · rw [if_pos c]
      · rw [if_neg c]
        by_cases c2 : up.toInt < x.toInt
        · rw [if_pos c2]
          exact Int32.toInt_inj.mp (by omega)
        · rw [if_neg c2]
          exact Int32.toInt_inj.mp (by omega)
set_option maxRecDepth 4000 in
theorem cx_clauseHolds {E : En} (hok : EOK E) {h : Hp} {m : St} (hw : Wf m) {R : Rm} {e : Nat → Int32} {ti : Nat} (hq : Tq m R e ti h) {c : Nat} (hc : c < nC m) : Call E m_X5_clauseHolds 3 0 0 [vR (7, 0), vI (nI c)] h (fun r h' => r = some (vI (bi ((R c).1 e = some 1))) ∧ Rk 0 h h') := by
  obtain ⟨-, x, y, z, e1, e2, e3, hz, hS, -⟩ := hq.2.2.1.2 c hc
  have hs := hq.1
  have hCb := hw.c.2
  refine Call.enter hok (by decide) (Nat.le_of_ble_eq_true rfl) ?_
  show G E m_X5_clauseHolds 3 0 0 _ h 0 [some (vR (7, 0)), some (vI (nI c))] [] h 0 0
  refine g_iload_n (pc' := 1) dX5_clauseHolds_0 rfl rfl ?_
  refine g_iconstN (n := 0) (pc' := 2) dX5_clauseHolds_1 rfl ?_
  refine g_bipushN (n := 15) (pc' := 4) dX5_clauseHolds_2 rfl (by decide) ?_
  refine g_invSN (pc' := 7) (cx_within hok _ _ _) dX5_clauseHolds_4 rfl nn_X5_53 st_X11_within in_X11 co_X11_within pd_X11_within rfl (by omega) (by decide) ⟨by decide, by decide⟩ (Nat.le_of_ble_eq_true rfl) ?_
  rintro _ _ ⟨rfl, rfl⟩ -
  refine g_ifB_eq (tgt := 39) (pc' := 10) dX5_clauseHolds_7 rfl (by decide) (fun c7 => ?_) (fun c7 => ?_)
  · exact absurd ⟨nI_le (Nat.zero_le c) (by omega), nI_le (show c ≤ 15 by omega) (by decide)⟩ c7
  ·
    refine g_aload_n (pc' := 11) dX5_clauseHolds_10 rfl rfl ?_
    refine g_aload_n (pc' := 12) dX5_clauseHolds_11 rfl rfl ?_
    refine g_getR (pc' := 15) (k := 2) (r := some (6, ti)) dX5_clauseHolds_12 rfl rfl ck_6 (by decide) fl_X5_9 rfl (hq.2.1) ?_
    refine g_getS (pc' := 18) (k := 4) (b := (39, ti)) dX5_clauseHolds_15 rfl rfl ck_7 (by decide) fl_X5_38 rfl hs rfl ?_
    refine g_iload_n (pc' := 19) dX5_clauseHolds_18 rfl rfl ?_
    refine g_ialdN (pc' := 20) (v := nI y) dX5_clauseHolds_19 rfl rfl (by decide) (by omega) (e2) ?_
    refine g_aload_n (pc' := 21) dX5_clauseHolds_20 rfl rfl ?_
    refine g_getR (pc' := 24) (k := 2) (r := some (6, ti)) dX5_clauseHolds_21 rfl rfl ck_6 (by decide) fl_X5_9 rfl (hq.2.1) ?_
    refine g_getS (pc' := 27) (k := 5) (b := (40, ti)) dX5_clauseHolds_24 rfl rfl ck_7 (by decide) fl_X5_57 rfl hs rfl ?_
    refine g_iload_n (pc' := 28) dX5_clauseHolds_27 rfl rfl ?_
    refine g_ialdN (pc' := 29) (v := nI z) dX5_clauseHolds_28 rfl rfl (by decide) (by omega) (e3) ?_
    refine g_invV (pc' := 32) (cx_result hok hq.rq hS hz) dX5_clauseHolds_29 rfl rfl ck_6 rfl ml_X5_41 im_X5_result sl_X5_result in_X5 co_X5_result pd_X5_result rfl (by omega) (by decide) ⟨by decide, by decide⟩ (Nat.le_of_ble_eq_true rfl) ?_
    rintro _ h' ⟨rfl, w'⟩ -
    refine g_if_eq (tgt := 39) (pc' := 35) dX5_clauseHolds_32 rfl (by decide) (fun c32 => ?_) (fun c32 => ?_)
    ·
      refine g_iconstN (n := 0) (pc' := 40) dX5_clauseHolds_39 rfl ?_
      refine g_zret dX5_clauseHolds_40 rfl (by rfl) (by decide) (by decide) ?_
      exact ⟨congrArg (fun z : Int32 => some (vI z)) (bi_f (P := (R c).1 e = some 1) (fun z => (isB_g (hS.isb e)).mpr z c32)).symm, w'⟩
    ·
      refine g_iconstN (n := 1) (pc' := 36) dX5_clauseHolds_35 rfl ?_
      refine g_goto (tgt := 40) dX5_clauseHolds_36 (by decide) ?_
      refine g_zret dX5_clauseHolds_40 rfl (by rfl) (by decide) (by decide) ?_
      exact ⟨congrArg (fun z : Int32 => some (vI z)) (bi_t (P := (R c).1 e = some 1) ((isB_g (hS.isb e)).mp c32)).symm, w'⟩
set_option maxRecDepth 4000 in
theorem lx_someHolds {E : En} (hok : EOK E) {m : St} (hw : Wf m) {R : Rm} {e : Nat → Int32} {ti : Nat} {x : Int32} {d : Nat} (hd : 4 ≤ d) {Q : Option V → Hp → Prop} {h h0 : Hp} (hq : Tq m R e ti h) (hQ : ∀ h', Rk 0 h h' → Q (some (vI (bi (smP m R e x)))) h') : ∀ n c h1, c ≤ nC m → nC m - c = n → Rk 0 h h1 → (∀ i, i < c → ¬ (m 131 i = x ∧ (R i).1 e = some 1)) → G E m_X5_someHolds d 0 0 Q h0 2 [some (vR (7, 0)), some (vI x), some (vI (nI c))] [] h1 0 0 := by
  have hCb := hw.c.2
  intro n
  induction n with
  | zero =>
    intro c h1 g1 g2 w1 hi
    have hq1 := hq.rk w1
    have hs := hq1.1
    refine g_iload_n (pc' := 3) dX5_someHolds_2 rfl rfl ?_
    refine g_aload_n (pc' := 4) dX5_someHolds_3 rfl rfl ?_
    refine g_getR (pc' := 7) (k := 2) (r := some (6, ti)) dX5_someHolds_4 rfl rfl ck_6 (by decide) fl_X5_9 rfl (hq1.2.1) ?_
    refine g_getIv (v := nI (nC m)) (pc' := 10) (k := 10) dX5_someHolds_7 rfl rfl ck_7 (by decide) fl_X5_22 rfl (hq1.2.2.1.1.trans hw.c.1) ?_
    refine g_icmp_geN (tgt := 48) (pc' := 13) dX5_someHolds_10 rfl (by decide) (by omega) (by omega) (fun c10 => ?_) (fun c10 => ?_)
    ·
      refine g_iconstN (n := 0) (pc' := 49) dX5_someHolds_48 rfl ?_
      refine g_zret dX5_someHolds_49 rfl (by rfl) (by decide) (by decide) ?_
      rw [bi_f (P := smP m R e x) (by rintro ⟨i, q1, q2⟩; exact hi i (by omega) q2)] at hQ
      exact hQ h1 w1
    · exact absurd c10 (by omega)
  | succ n ih =>
    intro c h1 g1 g2 w1 hi
    have hq1 := hq.rk w1
    have hs := hq1.1
    refine g_iload_n (pc' := 3) dX5_someHolds_2 rfl rfl ?_
    refine g_aload_n (pc' := 4) dX5_someHolds_3 rfl rfl ?_
    refine g_getR (pc' := 7) (k := 2) (r := some (6, ti)) dX5_someHolds_4 rfl rfl ck_6 (by decide) fl_X5_9 rfl (hq1.2.1) ?_
    refine g_getIv (v := nI (nC m)) (pc' := 10) (k := 10) dX5_someHolds_7 rfl rfl ck_7 (by decide) fl_X5_22 rfl (hq1.2.2.1.1.trans hw.c.1) ?_
    refine g_icmp_geN (tgt := 48) (pc' := 13) dX5_someHolds_10 rfl (by decide) (by omega) (by omega) (fun c10 => ?_) (fun c10 => ?_)
    · exact absurd c10 (by omega)
    ·
      refine g_iload_n (pc' := 14) dX5_someHolds_13 rfl rfl ?_
      refine g_bipushN (n := 16) (pc' := 16) dX5_someHolds_14 rfl (by decide) ?_
      refine g_icmp_geN (tgt := 48) (pc' := 19) dX5_someHolds_16 rfl (by decide) (by omega) (by omega) (fun c16 => ?_) (fun c16 => ?_)
      · exact absurd c16 (by omega)
      ·
        refine g_aload_n (pc' := 20) dX5_someHolds_19 rfl rfl ?_
        refine g_getR (pc' := 23) (k := 2) (r := some (6, ti)) dX5_someHolds_20 rfl rfl ck_6 (by decide) fl_X5_9 rfl (hq1.2.1) ?_
        refine g_getS (pc' := 26) (k := 2) (b := (37, ti)) dX5_someHolds_23 rfl rfl ck_7 (by decide) fl_X5_28 rfl hs rfl ?_
        refine g_iload_n (pc' := 27) dX5_someHolds_26 rfl rfl ?_
        refine g_ialdN (pc' := 28) (v := m 131 c) dX5_someHolds_27 rfl rfl (by decide) (by omega) ((hq1.2.2.1.2 c (by omega)).1) ?_
        refine g_iload_n (pc' := 29) dX5_someHolds_28 rfl rfl ?_
        refine g_icmp_ne (tgt := 42) (pc' := 32) dX5_someHolds_29 rfl (by decide) (fun c29 => ?_) (fun c29 => ?_)
        ·
          refine g_iincN (k := 1) (pc' := 45) dX5_someHolds_42 rfl rfl (by decide) rfl ?_
          try simp only [List.set]
          refine g_goto (tgt := 2) dX5_someHolds_45 (by decide) ?_
          exact ih (c + 1) h1 (by omega) (by omega) (w1) (lt_s hi (fun z => c29 z.1))
        ·
          refine g_aload_n (pc' := 33) dX5_someHolds_32 rfl rfl ?_
          refine g_iload_n (pc' := 34) dX5_someHolds_33 rfl rfl ?_
          refine g_invV (pc' := 37) (cx_clauseHolds hok hw hq1 (c := c) (by omega)) dX5_someHolds_34 rfl rfl ck_6 rfl ml_X5_31 im_X5_clauseHolds sl_X5_clauseHolds in_X5 co_X5_clauseHolds pd_X5_clauseHolds rfl (by omega) (by decide) ⟨by decide, by decide⟩ (Nat.le_of_ble_eq_true rfl) ?_
          rintro _ h2 ⟨rfl, w2⟩ -
          have hq2 := hq1.rk w2
          have hs := hq2.1
          refine g_ifB_eq (tgt := 42) (pc' := 40) dX5_someHolds_37 rfl (by decide) (fun c37 => ?_) (fun c37 => ?_)
          ·
            refine g_iincN (k := 1) (pc' := 45) dX5_someHolds_42 rfl rfl (by decide) rfl ?_
            try simp only [List.set]
            refine g_goto (tgt := 2) dX5_someHolds_45 (by decide) ?_
            exact ih (c + 1) h2 (by omega) (by omega) (w1.tr w2) (lt_s hi (fun z => c37 z.2))
          ·
            refine g_iconstN (n := 1) (pc' := 41) dX5_someHolds_40 rfl ?_
            refine g_zret dX5_someHolds_41 rfl (by rfl) (by decide) (by decide) ?_
            rw [bi_t (P := smP m R e x) ⟨c, by omega, c29, c37⟩] at hQ
            exact hQ h2 (w1.tr w2)
set_option maxRecDepth 4000 in
theorem lx_allHold {E : En} (hok : EOK E) {m : St} (hw : Wf m) {R : Rm} {e : Nat → Int32} {ti : Nat} {x : Int32} {d : Nat} (hd : 4 ≤ d) {Q : Option V → Hp → Prop} {h h0 : Hp} (hq : Tq m R e ti h) (hQ : ∀ h', Rk 0 h h' → Q (some (vI (bi (alP m R e x)))) h') : ∀ n c h1, c ≤ nC m → nC m - c = n → Rk 0 h h1 → (∀ i, i < c → (m 131 i = x → (R i).1 e = some 1)) → G E m_X5_allHold d 0 0 Q h0 2 [some (vR (7, 0)), some (vI x), some (vI (nI c))] [] h1 0 0 := by
  have hCb := hw.c.2
  intro n
  induction n with
  | zero =>
    intro c h1 g1 g2 w1 hi
    have hq1 := hq.rk w1
    have hs := hq1.1
    refine g_iload_n (pc' := 3) dX5_allHold_2 rfl rfl ?_
    refine g_aload_n (pc' := 4) dX5_allHold_3 rfl rfl ?_
    refine g_getR (pc' := 7) (k := 2) (r := some (6, ti)) dX5_allHold_4 rfl rfl ck_6 (by decide) fl_X5_9 rfl (hq1.2.1) ?_
    refine g_getIv (v := nI (nC m)) (pc' := 10) (k := 10) dX5_allHold_7 rfl rfl ck_7 (by decide) fl_X5_22 rfl (hq1.2.2.1.1.trans hw.c.1) ?_
    refine g_icmp_geN (tgt := 48) (pc' := 13) dX5_allHold_10 rfl (by decide) (by omega) (by omega) (fun c10 => ?_) (fun c10 => ?_)
    ·
      refine g_iconstN (n := 1) (pc' := 49) dX5_allHold_48 rfl ?_
      refine g_zret dX5_allHold_49 rfl (by rfl) (by decide) (by decide) ?_
      rw [bi_t (P := alP m R e x) (fun i q1 => hi i (by omega))] at hQ
      exact hQ h1 w1
    · exact absurd c10 (by omega)
  | succ n ih =>
    intro c h1 g1 g2 w1 hi
    have hq1 := hq.rk w1
    have hs := hq1.1
    refine g_iload_n (pc' := 3) dX5_allHold_2 rfl rfl ?_
    refine g_aload_n (pc' := 4) dX5_allHold_3 rfl rfl ?_
    refine g_getR (pc' := 7) (k := 2) (r := some (6, ti)) dX5_allHold_4 rfl rfl ck_6 (by decide) fl_X5_9 rfl (hq1.2.1) ?_
    refine g_getIv (v := nI (nC m)) (pc' := 10) (k := 10) dX5_allHold_7 rfl rfl ck_7 (by decide) fl_X5_22 rfl (hq1.2.2.1.1.trans hw.c.1) ?_
    refine g_icmp_geN (tgt := 48) (pc' := 13) dX5_allHold_10 rfl (by decide) (by omega) (by omega) (fun c10 => ?_) (fun c10 => ?_)
    · exact absurd c10 (by omega)
    ·
      refine g_iload_n (pc' := 14) dX5_allHold_13 rfl rfl ?_
      refine g_bipushN (n := 16) (pc' := 16) dX5_allHold_14 rfl (by decide) ?_
      refine g_icmp_geN (tgt := 48) (pc' := 19) dX5_allHold_16 rfl (by decide) (by omega) (by omega) (fun c16 => ?_) (fun c16 => ?_)
      · exact absurd c16 (by omega)
      ·
        refine g_aload_n (pc' := 20) dX5_allHold_19 rfl rfl ?_
        refine g_getR (pc' := 23) (k := 2) (r := some (6, ti)) dX5_allHold_20 rfl rfl ck_6 (by decide) fl_X5_9 rfl (hq1.2.1) ?_
        refine g_getS (pc' := 26) (k := 2) (b := (37, ti)) dX5_allHold_23 rfl rfl ck_7 (by decide) fl_X5_28 rfl hs rfl ?_
        refine g_iload_n (pc' := 27) dX5_allHold_26 rfl rfl ?_
        refine g_ialdN (pc' := 28) (v := m 131 c) dX5_allHold_27 rfl rfl (by decide) (by omega) ((hq1.2.2.1.2 c (by omega)).1) ?_
        refine g_iload_n (pc' := 29) dX5_allHold_28 rfl rfl ?_
        refine g_icmp_ne (tgt := 42) (pc' := 32) dX5_allHold_29 rfl (by decide) (fun c29 => ?_) (fun c29 => ?_)
        ·
          refine g_iincN (k := 1) (pc' := 45) dX5_allHold_42 rfl rfl (by decide) rfl ?_
          try simp only [List.set]
          refine g_goto (tgt := 2) dX5_allHold_45 (by decide) ?_
          exact ih (c + 1) h1 (by omega) (by omega) (w1) (lt_s hi (fun z => absurd z c29))
        ·
          refine g_aload_n (pc' := 33) dX5_allHold_32 rfl rfl ?_
          refine g_iload_n (pc' := 34) dX5_allHold_33 rfl rfl ?_
          refine g_invV (pc' := 37) (cx_clauseHolds hok hw hq1 (c := c) (by omega)) dX5_allHold_34 rfl rfl ck_6 rfl ml_X5_31 im_X5_clauseHolds sl_X5_clauseHolds in_X5 co_X5_clauseHolds pd_X5_clauseHolds rfl (by omega) (by decide) ⟨by decide, by decide⟩ (Nat.le_of_ble_eq_true rfl) ?_
          rintro _ h2 ⟨rfl, w2⟩ -
          have hq2 := hq1.rk w2
          have hs := hq2.1
          refine g_ifB_ne (tgt := 42) (pc' := 40) dX5_allHold_37 rfl (by decide) (fun c37 => ?_) (fun c37 => ?_)
          ·
            refine g_iincN (k := 1) (pc' := 45) dX5_allHold_42 rfl rfl (by decide) rfl ?_
            try simp only [List.set]
            refine g_goto (tgt := 2) dX5_allHold_45 (by decide) ?_
            exact ih (c + 1) h2 (by omega) (by omega) (w1.tr w2) (lt_s hi (fun _ => c37))
          ·
            refine g_iconstN (n := 0) (pc' := 41) dX5_allHold_40 rfl ?_
            refine g_zret dX5_allHold_41 rfl (by rfl) (by decide) (by decide) ?_
            rw [bi_f (P := alP m R e x) (fun z => c37 (z c (by omega) c29))] at hQ
            exact hQ h2 (w1.tr w2)
set_option maxRecDepth 4000 in
theorem cx_someHolds {E : En} (hok : EOK E) {h : Hp} {m : St} (hw : Wf m) {R : Rm} {e : Nat → Int32} {ti : Nat} (hq : Tq m R e ti h) (x : Int32) : Call E m_X5_someHolds 4 0 0 [vR (7, 0), vI x] h (fun r h' => r = some (vI (bi (smP m R e x))) ∧ Rk 0 h h') := by
  refine Call.enter hok (by decide) (Nat.le_of_ble_eq_true rfl) ?_
  show G E m_X5_someHolds 4 0 0 _ h 0 [some (vR (7, 0)), some (vI x), none] [] h 0 0
  refine g_iconstN (n := 0) (pc' := 1) dX5_someHolds_0 rfl ?_
  refine g_istore_n (pc' := 2) dX5_someHolds_1 rfl (by decide) rfl ?_
  try simp only [List.set]
  exact lx_someHolds hok hw (Nat.le_refl _) hq (fun h' w' => ⟨rfl, w'⟩) _ 0 h (Nat.zero_le _) rfl (Rk.rf 0 h) (fun i q => absurd q (Nat.not_lt_zero i))
set_option maxRecDepth 4000 in
theorem cx_allHold {E : En} (hok : EOK E) {h : Hp} {m : St} (hw : Wf m) {R : Rm} {e : Nat → Int32} {ti : Nat} (hq : Tq m R e ti h) (x : Int32) : Call E m_X5_allHold 4 0 0 [vR (7, 0), vI x] h (fun r h' => r = some (vI (bi (alP m R e x))) ∧ Rk 0 h h') := by
  refine Call.enter hok (by decide) (Nat.le_of_ble_eq_true rfl) ?_
  show G E m_X5_allHold 4 0 0 _ h 0 [some (vR (7, 0)), some (vI x), none] [] h 0 0
  refine g_iconstN (n := 0) (pc' := 1) dX5_allHold_0 rfl ?_
  refine g_istore_n (pc' := 2) dX5_allHold_1 rfl (by decide) rfl ?_
  try simp only [List.set]
  exact lx_allHold hok hw (Nat.le_refl _) hq (fun h' w' => ⟨rfl, w'⟩) _ 0 h (Nat.zero_le _) rfl (Rk.rf 0 h) (fun i q => absurd q (Nat.not_lt_zero i))
set_option maxRecDepth 4000 in
theorem lx_firstValue {E : En} (hok : EOK E) {m : St} (hw : Wf m) {R : Rm} {e : Nat → Int32} {ti : Nat} {x lo up no : Int32} (hlo : lo ≤ up) (hx : isV x) {d : Nat} (hd : 4 ≤ d) {Q : Option V → Hp → Prop} {h h0 : Hp} (hq : Tq m R e ti h) (hQ : ∀ h', Rk 0 h h' → Q (some (vI (tlF m R e x lo up no (nC m) 0))) h') : ∀ n c h1, c ≤ nC m → nC m - c = n → Rk 0 h h1 → (tlF m R e x lo up no (nC m - c) c = tlF m R e x lo up no (nC m) 0) → G E m_X5_firstValue d 0 0 Q h0 3 [some (vR (7, 0)), some (vI x), some (vI no), some (vI lo), some (vI up), some (vI (nI c)), none] [] h1 0 0 := by
  have hCb := hw.c.2
  intro n
  induction n with
  | zero =>
    intro c h1 g1 g2 w1 hi
    have hq1 := hq.rk w1
    have hs := hq1.1
    refine g_iload (pc' := 5) dX5_firstValue_3 rfl rfl ?_
    refine g_aload_n (pc' := 6) dX5_firstValue_5 rfl rfl ?_
    refine g_getR (pc' := 9) (k := 2) (r := some (6, ti)) dX5_firstValue_6 rfl rfl ck_6 (by decide) fl_X5_9 rfl (hq1.2.1) ?_
    refine g_getIv (v := nI (nC m)) (pc' := 12) (k := 10) dX5_firstValue_9 rfl rfl ck_7 (by decide) fl_X5_22 rfl (hq1.2.2.1.1.trans hw.c.1) ?_
    refine g_icmp_geN (tgt := 89) (pc' := 15) dX5_firstValue_12 rfl (by decide) (by omega) (by omega) (fun c12 => ?_) (fun c12 => ?_)
    ·
      refine g_iload_n (pc' := 90) dX5_firstValue_89 rfl rfl ?_
      refine g_iret dX5_firstValue_90 rfl (by decide) (by decide) ?_
      have e0 : nC m - c = 0 := by omega
      rw [e0] at hi
      have q := hQ h1 w1
      rw [← hi] at q
      exact q
    · exact absurd c12 (by omega)
  | succ n ih =>
    intro c h1 g1 g2 w1 hi
    have hq1 := hq.rk w1
    have hs := hq1.1
    refine g_iload (pc' := 5) dX5_firstValue_3 rfl rfl ?_
    refine g_aload_n (pc' := 6) dX5_firstValue_5 rfl rfl ?_
    refine g_getR (pc' := 9) (k := 2) (r := some (6, ti)) dX5_firstValue_6 rfl rfl ck_6 (by decide) fl_X5_9 rfl (hq1.2.1) ?_
    refine g_getIv (v := nI (nC m)) (pc' := 12) (k := 10) dX5_firstValue_9 rfl rfl ck_7 (by decide) fl_X5_22 rfl (hq1.2.2.1.1.trans hw.c.1) ?_
    refine g_icmp_geN (tgt := 89) (pc' := 15) dX5_firstValue_12 rfl (by decide) (by omega) (by omega) (fun c12 => ?_) (fun c12 => ?_)
    · exact absurd c12 (by omega)
    ·
      refine g_iload (pc' := 17) dX5_firstValue_15 rfl rfl ?_
      refine g_bipushN (n := 16) (pc' := 19) dX5_firstValue_17 rfl (by decide) ?_
      refine g_icmp_geN (tgt := 89) (pc' := 22) dX5_firstValue_19 rfl (by decide) (by omega) (by omega) (fun c19 => ?_) (fun c19 => ?_)
      · exact absurd c19 (by omega)
      ·
        refine g_aload_n (pc' := 23) dX5_firstValue_22 rfl rfl ?_
        refine g_getR (pc' := 26) (k := 2) (r := some (6, ti)) dX5_firstValue_23 rfl rfl ck_6 (by decide) fl_X5_9 rfl (hq1.2.1) ?_
        refine g_getS (pc' := 29) (k := 2) (b := (37, ti)) dX5_firstValue_26 rfl rfl ck_7 (by decide) fl_X5_28 rfl hs rfl ?_
        refine g_iload (pc' := 31) dX5_firstValue_29 rfl rfl ?_
        refine g_ialdN (pc' := 32) (v := m 131 c) dX5_firstValue_31 rfl rfl (by decide) (by omega) ((hq1.2.2.1.2 c (by omega)).1) ?_
        refine g_iload_n (pc' := 33) dX5_firstValue_32 rfl rfl ?_
        refine g_icmp_ne (tgt := 83) (pc' := 36) dX5_firstValue_33 rfl (by decide) (fun c33 => ?_) (fun c33 => ?_)
        ·
          refine g_iincN (k := 1) (pc' := 86) dX5_firstValue_83 rfl rfl (by decide) rfl ?_
          try simp only [List.set]
          refine g_goto (tgt := 3) dX5_firstValue_86 (by decide) ?_
          refine ih (c + 1) h1 (by omega) (by omega) (w1) ?_
          rw [← hi]
          have en : nC m - c = nC m - (c + 1) + 1 := by omega
          rw [en]
          exact (cif_f (fun z => c33 z.1)).symm
        ·
          refine g_aload_n (pc' := 37) dX5_firstValue_36 rfl rfl ?_
          refine g_iload (pc' := 39) dX5_firstValue_37 rfl rfl ?_
          refine g_invV (pc' := 42) (cx_clauseHolds hok hw hq1 (c := c) (by omega)) dX5_firstValue_39 rfl rfl ck_6 rfl ml_X5_31 im_X5_clauseHolds sl_X5_clauseHolds in_X5 co_X5_clauseHolds pd_X5_clauseHolds rfl (by omega) (by decide) ⟨by decide, by decide⟩ (Nat.le_of_ble_eq_true rfl) ?_
          rintro _ h2 ⟨rfl, w2⟩ -
          have hq2 := hq1.rk w2
          have hs := hq2.1
          refine g_ifB_eq (tgt := 83) (pc' := 45) dX5_firstValue_42 rfl (by decide) (fun c42 => ?_) (fun c42 => ?_)
          ·
            refine g_iincN (k := 1) (pc' := 86) dX5_firstValue_83 rfl rfl (by decide) rfl ?_
            try simp only [List.set]
            refine g_goto (tgt := 3) dX5_firstValue_86 (by decide) ?_
            refine ih (c + 1) h2 (by omega) (by omega) (w1.tr w2) ?_
            rw [← hi]
            have en : nC m - c = nC m - (c + 1) + 1 := by omega
            rw [en]
            exact (cif_f (fun z => c42 z.2)).symm
          ·
            obtain ⟨-, u, y, z, e1, e2, e3, hz, hC, hS⟩ := hq2.2.2.1.2 c (by omega)
            have hyz := hC.lt
            have hy : y ≤ 200 := by omega
            refine g_aload_n (pc' := 46) dX5_firstValue_45 rfl rfl ?_
            refine g_aload_n (pc' := 47) dX5_firstValue_46 rfl rfl ?_
            refine g_getR (pc' := 50) (k := 2) (r := some (6, ti)) dX5_firstValue_47 rfl rfl ck_6 (by decide) fl_X5_9 rfl (hq2.2.1) ?_
            refine g_getS (pc' := 53) (k := 3) (b := (38, ti)) dX5_firstValue_50 rfl rfl ck_7 (by decide) fl_X5_35 rfl hs rfl ?_
            refine g_iload (pc' := 55) dX5_firstValue_53 rfl rfl ?_
            refine g_ialdN (pc' := 56) (v := nI u) dX5_firstValue_55 rfl rfl (by decide) (by omega) (e1) ?_
            refine g_aload_n (pc' := 57) dX5_firstValue_56 rfl rfl ?_
            refine g_getR (pc' := 60) (k := 2) (r := some (6, ti)) dX5_firstValue_57 rfl rfl ck_6 (by decide) fl_X5_9 rfl (hq2.2.1) ?_
            refine g_getS (pc' := 63) (k := 4) (b := (39, ti)) dX5_firstValue_60 rfl rfl ck_7 (by decide) fl_X5_38 rfl hs rfl ?_
            refine g_iload (pc' := 65) dX5_firstValue_63 rfl rfl ?_
            refine g_ialdN (pc' := 66) (v := nI y) dX5_firstValue_65 rfl rfl (by decide) (by omega) (e2) ?_
            refine g_invV (pc' := 69) (cx_result hok hq2.rq (hS (by rw [c33]; exact hx)) hy) dX5_firstValue_66 rfl rfl ck_6 rfl ml_X5_41 im_X5_result sl_X5_result in_X5 co_X5_result pd_X5_result rfl (by omega) (by decide) ⟨by decide, by decide⟩ (Nat.le_of_ble_eq_true rfl) ?_
            rintro _ h3 ⟨rfl, w3⟩ -
            refine g_istore (pc' := 71) dX5_firstValue_69 rfl (by decide) rfl ?_
            try simp only [List.set]
            refine g_iload_n (pc' := 72) dX5_firstValue_71 rfl rfl ?_
            refine g_iload (pc' := 74) dX5_firstValue_72 rfl rfl ?_
            refine g_iload (pc' := 76) dX5_firstValue_74 rfl rfl ?_
            refine g_min (pc' := 79) dX5_firstValue_76 rfl ml_X5_45 mn_s in_J9 mn_c (by omega) (by decide) (by decide) (Nat.le_of_ble_eq_true rfl) ?_
            refine g_max (pc' := 82) dX5_firstValue_79 rfl ml_X5_50 mx_s in_J9 mx_c (by omega) (by decide) (by decide) (Nat.le_of_ble_eq_true rfl) ?_
            refine g_iret dX5_firstValue_82 rfl (by decide) (by decide) ?_
            have q := hQ h3 ((w1.tr w2).tr w3)
            rw [← hi] at q
            have en : nC m - c = nC m - (c + 1) + 1 := by omega
            rw [en] at q
            have ec : tlF m R e x lo up no (nC m - (c + 1) + 1) c = clp lo up ((R c).2 e) := cif_t ⟨c33, c42⟩
            rw [ec, ← clp_eq hlo] at q
            exact q
set_option maxRecDepth 4000 in
theorem cx_firstValue {E : En} (hok : EOK E) {h : Hp} {m : St} (hw : Wf m) {R : Rm} {e : Nat → Int32} {ti : Nat} (hq : Tq m R e ti h) (x no lo up : Int32) (hlo : lo ≤ up) (hx : isV x) : Call E m_X5_firstValue 4 0 0 [vR (7, 0), vI x, vI no, vI lo, vI up] h (fun r h' => r = some (vI (tlF m R e x lo up no (nC m) 0)) ∧ Rk 0 h h') := by
  refine Call.enter hok (by decide) (Nat.le_of_ble_eq_true rfl) ?_
  show G E m_X5_firstValue 4 0 0 _ h 0 [some (vR (7, 0)), some (vI x), some (vI no), some (vI lo), some (vI up), none, none] [] h 0 0
  refine g_iconstN (n := 0) (pc' := 1) dX5_firstValue_0 rfl ?_
  refine g_istore (pc' := 3) dX5_firstValue_1 rfl (by decide) rfl ?_
  try simp only [List.set]
  exact lx_firstValue hok hw hlo hx (Nat.le_refl _) hq (fun h' w' => ⟨rfl, w'⟩) _ 0 h (Nat.zero_le _) rfl (Rk.rf 0 h) rfl
