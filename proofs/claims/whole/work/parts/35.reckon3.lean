/-- what the reckoning stands on -/
def Hq (m : St) (k : Nat) (t : Int32) (f : Nat) (late : Int32) (h : Hp) : Prop := Shp h.2 ∧ mo h = m ∧ As h k t f late
theorem Hq.wk {m : St} {k f a : Nat} {t late : Int32} {h h' : Hp} (q : Hq m k t f late h) (w : Wk a h h') : Hq m k t f late h' := ⟨by rw [w.1]; exact q.1, w.mo.trans q.2.1, w.as q.2.2⟩
/-- the letters are what the reference's valueOf says -/
def Lv (E : En) (m : St) (k : Nat) (t : Int32) (f : Nat) (late : Int32) (e : Nat → Int32) : Prop := ∀ h l, Hq m k t f late h → isLt l → Fn E m_X12_valueOf 2 [vR MO, vI (nI l)] h (vI (e l))
theorem Lv_T {E : En} (hok : EOK E) {m : St} (hw : Wf m) {t f : Nat} (ht : t < nT m) (hf : f < nF m) (late : Int32) : Lv E m (kd m t) (nI t) f late (envT m t f late) := by
  rintro h l ⟨h1, rfl, h3⟩ hl
  exact cm_valueOfT hok h1 hw (hw.kd ht).2 hf ht h3 hl
theorem Lv_N {E : En} (hok : EOK E) {m : St} (hw : Wf m) {k f : Nat} (hk : k < nK m) (hf : f < nF m) : Lv E m k (-1) f 0 (envN m k f) := by
  rintro h l ⟨h1, rfl, h3⟩ hl
  exact cm_valueOfN hok h1 hw hk hf h3 hl
set_option maxRecDepth 4000 in
theorem wg_sr {E : En} (hok : EOK E) {m : St} {k f : Nat} {t late : Int32} {e : Nat → Int32} (hv : Lv E m k t f late e) {d : Nat} (hd : 3 ≤ d) {Q : Option V → Hp → Prop} {h0 : Hp} {T : Nat} (hT : T ≤ 200) {i j : Nat} {b : Bool} {F : Mng} (hS : SR (m 135) (m 136) i j b F) : j ≤ T → ∀ a h, Hq m k t f late h → a + (j - i) ≤ 240 → (∀ h', Wk a h h' → Vl h' a (F e) → WG E d Q h0 T j (a + 1) h') → WG E d Q h0 T i a h := by
  have key : i < j ∧ (j ≤ T → ∀ a h, Hq m k t f late h → a + (j - i) ≤ 240 → (∀ h', Wk a h h' → Vl h' a (F e) → WG E d Q h0 T j (a + 1) h') → WG E d Q h0 T i a h) := by
    have cc : ∀ {h : Hp}, mo h = m → ∀ i, h.1 (135, 0) i = m 135 i := fun q i => by rw [← q]; rfl
    have ca : ∀ {h : Hp}, mo h = m → ∀ i, h.1 (136, 0) i = m 136 i := fun q i => by rw [← q]; rfl
    refine hS (fun i j b F => i < j ∧ (j ≤ T → ∀ a h, Hq m k t f late h → a + (j - i) ≤ 240 → (∀ h', Wk a h h' → Vl h' a (F e) → WG E d Q h0 T j (a + 1) h') → WG E d Q h0 T i a h)) ⟨?_, ?_, ?_, ?_, ?_, ?_, ?_⟩
    · intro i hc
      refine ⟨Nat.lt_succ_self i, fun hj a h q ha K => ?_⟩
      refine wg_num hok q.1 hd hT (by omega) (by omega) ((cc q.2.1 i).trans hc) (K _ (((Wk.rf a h).w8 (Nat.le_refl a)).w7 (Nat.le_refl a)) (Vl_two (Or.inl ⟨rfl, ?_⟩)))
      show some (m 136 i) = some (h.1 (136, 0) i)
      rw [ca q.2.1 i]
    · intro i l hc hl hla
      refine ⟨Nat.lt_succ_self i, fun hj a h q ha K => ?_⟩
      exact wg_let hok q.1 hd hT (by omega) (by omega) ((cc q.2.1 i).trans hc) ((ca q.2.1 i).trans hla) (hv _ l (q.wk ((Wk.rf a h).w8 (Nat.le_refl a))) hl) (K _ (((Wk.rf a h).w8 (Nat.le_refl a)).w7 (Nat.le_refl a)) (Vl_two (Or.inl ⟨rfl, rfl⟩)))
    · intro i p F q1 hc
      refine ⟨by omega, fun hj a h q ha K => q1.2 (by omega) a h q (by omega) fun h1 w1 v1 => ?_⟩
      refine wg_not hok (q.wk w1).1 hd hT (by omega) (by omega) ((cc (q.wk w1).2.1 p).trans hc) (K _ (w1.tr ((Wk.rf a h1).w7 (Nat.le_refl a))) ?_)
      show Vl _ a (vNot (F e))
      rcases hF : F e with _ | x
      · rw [hF] at v1
        exact v1
      · rw [hF] at v1
        exact ⟨v1.1, by rw [wI_at, if_pos ⟨rfl, rfl⟩, v1.2]; rfl⟩
    · intro i p l F1 F2 s q1 q2 hc hs
      refine ⟨by omega, fun hj a h q ha K => q1.2 (by omega) a h q (by omega) fun h1 w1 v1 => q2.2 (by omega) (a + 1) h1 (q.wk w1) (by omega) fun h2 w2 v2 => ?_⟩
      have r2 := (q.wk w1).wk w2
      have v1' : Vl h2 a (F1 e) := v1.wk w2 (Nat.lt_succ_self a)
      rcases hs with rfl | rfl | rfl | rfl | rfl
      · exact wg_op_43 hok r2.1 hd hT (by omega) (by omega) ((cc r2.2.1 l).trans hc) (cm_does_43 hok r2.1 (by omega) v1' v2) (fun h3 z => K h3 ((w1.tr (w2.le (Nat.le_succ a))).tr z.1) z.2)
      · exact wg_op_45 hok r2.1 hd hT (by omega) (by omega) ((cc r2.2.1 l).trans hc) (cm_does_45 hok r2.1 (by omega) v1' v2) (fun h3 z => K h3 ((w1.tr (w2.le (Nat.le_succ a))).tr z.1) z.2)
      · exact wg_op_42 hok r2.1 hd hT (by omega) (by omega) ((cc r2.2.1 l).trans hc) (cm_does_42 hok r2.1 (by omega) v1' v2) (fun h3 z => K h3 ((w1.tr (w2.le (Nat.le_succ a))).tr z.1) z.2)
      · exact wg_op_47 hok r2.1 hd hT (by omega) (by omega) ((cc r2.2.1 l).trans hc) (cm_does_47 hok r2.1 (by omega) v1' v2) (fun h3 z => K h3 ((w1.tr (w2.le (Nat.le_succ a))).tr z.1) z.2)
      · exact wg_op_37 hok r2.1 hd hT (by omega) (by omega) ((cc r2.2.1 l).trans hc) (cm_does_37 hok r2.1 (by omega) v1' v2) (fun h3 z => K h3 ((w1.tr (w2.le (Nat.le_succ a))).tr z.1) z.2)
    · intro i p l F1 F2 s q1 q2 hc hs
      refine ⟨by omega, fun hj a h q ha K => q1.2 (by omega) a h q (by omega) fun h1 w1 v1 => q2.2 (by omega) (a + 1) h1 (q.wk w1) (by omega) fun h2 w2 v2 => ?_⟩
      have r2 := (q.wk w1).wk w2
      have v1' : Vl h2 a (F1 e) := v1.wk w2 (Nat.lt_succ_self a)
      rcases hs with rfl | rfl | rfl
      · exact wg_op_60 hok r2.1 hd hT (by omega) (by omega) ((cc r2.2.1 l).trans hc) (cm_does_60 hok r2.1 (by omega) v1' v2) (fun h3 z => K h3 ((w1.tr (w2.le (Nat.le_succ a))).tr z.1) z.2)
      · exact wg_op_62 hok r2.1 hd hT (by omega) (by omega) ((cc r2.2.1 l).trans hc) (cm_does_62 hok r2.1 (by omega) v1' v2) (fun h3 z => K h3 ((w1.tr (w2.le (Nat.le_succ a))).tr z.1) z.2)
      · exact wg_op_61 hok r2.1 hd hT (by omega) (by omega) ((cc r2.2.1 l).trans hc) (cm_does_61 hok r2.1 (by omega) v1' v2) (fun h3 z => K h3 ((w1.tr (w2.le (Nat.le_succ a))).tr z.1) z.2)
    · intro i p l F1 F2 q1 q2 hc
      refine ⟨by omega, fun hj a h q ha K => q1.2 (by omega) a h q (by omega) fun h1 w1 v1 => q2.2 (by omega) (a + 1) h1 (q.wk w1) (by omega) fun h2 w2 v2 => ?_⟩
      have r2 := (q.wk w1).wk w2
      have v1' : Vl h2 a (F1 e) := v1.wk w2 (Nat.lt_succ_self a)
      exact wg_op_38 hok r2.1 hd hT (by omega) (by omega) ((cc r2.2.1 l).trans hc) (cm_does_38 hok r2.1 (by omega) v1' v2) (fun h3 z => K h3 ((w1.tr (w2.le (Nat.le_succ a))).tr z.1) z.2)
    · intro i p l F1 F2 q1 q2 hc
      refine ⟨by omega, fun hj a h q ha K => q1.2 (by omega) a h q (by omega) fun h1 w1 v1 => q2.2 (by omega) (a + 1) h1 (q.wk w1) (by omega) fun h2 w2 v2 => ?_⟩
      have r2 := (q.wk w1).wk w2
      have v1' : Vl h2 a (F1 e) := v1.wk w2 (Nat.lt_succ_self a)
      exact wg_op_124 hok r2.1 hd hT (by omega) (by omega) ((cc r2.2.1 l).trans hc) (cm_does_124 hok r2.1 (by omega) v1' v2) (fun h3 z => K h3 ((w1.tr (w2.le (Nat.le_succ a))).tr z.1) z.2)
  exact key.2
theorem cm_works {E : En} (hok : EOK E) {m : St} {k f : Nat} {t late : Int32} {e : Nat → Int32} (hv : Lv E m k t f late e) {h : Hp} (hq : Hq m k t f late h) {i j : Nat} {b : Bool} {F : Mng} (hS : SR (m 135) (m 136) i j b F) (hj : j ≤ 200) : Call E m_X12_works 3 0 0 [vR MO, vI (nI i), vI (nI j)] h (fun r h' => r = none ∧ Wk 0 h h' ∧ Vl h' 0 (F e)) := by
  refine Call.enter hok (by decide) (Nat.le_of_ble_eq_true rfl) ?_
  show G E m_X12_works 3 0 0 _ h 0 [some (vR MO), some (vI (nI i)), some (vI (nI j)), none, none] [] h 0 0
  refine g_iconstN (n := 0) (pc' := 1) dX12_works_0 rfl ?_
  refine g_istore_n (pc' := 2) dX12_works_1 rfl (by decide) rfl ?_
  try simp only [List.set]
  refine g_iload_n (pc' := 3) dX12_works_2 rfl rfl ?_
  refine g_istore (pc' := 5) dX12_works_3 rfl (by decide) rfl ?_
  try simp only [List.set]
  refine G.drop 1 ?_
  simp only [List.set]
  refine wg_sr hok hv (Nat.le_refl _) hj hS (Nat.le_refl _) 0 h hq (by omega) fun h' w' v' => ?_
  refine g_iload (pc' := 7) dX12_works_5 rfl rfl ?_
  refine g_iload_n (pc' := 8) dX12_works_7 rfl rfl ?_
  refine g_icmp_geN (tgt := 127) (pc' := 11) dX12_works_8 rfl (by decide) (by omega) (by omega) (fun c8 => ?_) (fun c8 => ?_)
  ·
    refine g_vret dX12_works_127 rfl (by decide) (by decide) ?_
    exact ⟨rfl, w', v'⟩
  · exact absurd (Nat.le_refl j) c8
/-- what the rules say -/
def clp (lo hi : Int32) (v : Option Int32) : Int32 := if v.getD 0 < lo then lo else if hi < v.getD 0 then hi else v.getD 0
noncomputable def tlF (m : St) (R : Rm) (e : Nat → Int32) (x lo hi no : Int32) : Nat → Nat → Int32
  | 0, _ => no
  | n + 1, k => cif (m 131 k = x ∧ (R k).1 e = some 1) (clp lo hi ((R k).2 e)) (tlF m R e x lo hi no n (k + 1))
def smP (m : St) (R : Rm) (e : Nat → Int32) (x : Int32) : Prop := ∃ k, k < nC m ∧ m 131 k = x ∧ (R k).1 e = some 1
def alP (m : St) (R : Rm) (e : Nat → Int32) (x : Int32) : Prop := ∀ k, k < nC m → m 131 k = x → (R k).1 e = some 1
set_option maxRecDepth 4000 in
theorem cm_holds {E : En} (hok : EOK E) {h : Hp} {m : St} (hw : Wf m) {R : Rm} (hR : WR m R) {k f : Nat} {t late : Int32} {e : Nat → Int32} (hv : Lv E m k t f late e) (hq : Hq m k t f late h) {c : Nat} (hc : c < nC m) : Call E m_X12_holds 4 0 0 [vR MO, vI (nI c)] h (fun r h' => r = some (vI (bi ((R c).1 e = some 1))) ∧ Wk 0 h h') := by
  obtain ⟨x, y, z, e1, e2, e3, hz, hS, -⟩ := hR c hc
  have hs := hq.1
  have hCb := hw.c.2
  refine Call.enter hok (by decide) (Nat.le_of_ble_eq_true rfl) ?_
  show G E m_X12_holds 4 0 0 _ h 0 [some (vR MO), some (vI (nI c))] [] h 0 0
  refine g_aload_n (pc' := 1) dX12_holds_0 rfl rfl ?_
  refine g_aload_n (pc' := 2) dX12_holds_1 rfl rfl ?_
  refine g_getS (pc' := 5) (k := 33) (b := (133, 0)) dX12_holds_2 rfl rfl ck_13 (by decide) fl_X12_87 rfl hs rfl ?_
  refine g_iload_n (pc' := 6) dX12_holds_5 rfl rfl ?_
  refine g_ialdN (pc' := 7) (v := nI y) dX12_holds_6 rfl rfl (by decide) (by omega) ((show h.1 (133, 0) c = m 133 c by rw [← hq.2.1]; rfl).trans e2) ?_
  refine g_aload_n (pc' := 8) dX12_holds_7 rfl rfl ?_
  refine g_getS (pc' := 11) (k := 34) (b := (134, 0)) dX12_holds_8 rfl rfl ck_13 (by decide) fl_X12_90 rfl hs rfl ?_
  refine g_iload_n (pc' := 12) dX12_holds_11 rfl rfl ?_
  refine g_ialdN (pc' := 13) (v := nI z) dX12_holds_12 rfl rfl (by decide) (by omega) ((show h.1 (134, 0) c = m 134 c by rw [← hq.2.1]; rfl).trans e3) ?_
  refine g_invV (pc' := 16) (cm_works hok hv hq hS hz) dX12_holds_13 rfl rfl ck_13 rfl ml_X12_413 im_X12_works sl_X12_works in_X12 co_X12_works pd_X12_works rfl (by omega) (by decide) ⟨by decide, by decide⟩ (Nat.le_of_ble_eq_true rfl) ?_
  rintro _ h' ⟨rfl, w', v'⟩ -
  have hs := (hq.wk w').1
  refine g_aload_n (pc' := 17) dX12_holds_16 rfl rfl ?_
  refine g_getS (pc' := 20) (k := 58) (b := (158, 0)) dX12_holds_17 rfl rfl ck_13 (by decide) fl_X12_123 rfl hs rfl ?_
  refine g_iconstN (n := 0) (pc' := 21) dX12_holds_20 rfl ?_
  refine g_zaldN (pc' := 22) (v := _) dX12_holds_21 rfl rfl (by decide) (by omega) (rfl) ?_
  refine g_if_ne (tgt := 39) (pc' := 25) dX12_holds_22 rfl (by decide) (fun c22 => ?_) (fun c22 => ?_)
  ·
    refine g_iconstN (n := 0) (pc' := 40) dX12_holds_39 rfl ?_
    refine g_zret dX12_holds_40 rfl (by rfl) (by decide) (by decide) ?_
    exact ⟨congrArg (fun z : Int32 => some (vI z)) (bi_f (P := (R c).1 e = some 1) (by rw [Vl_n v' c22]; intro z; cases z)).symm, w'⟩
  ·
    refine g_aload_n (pc' := 26) dX12_holds_25 rfl rfl ?_
    refine g_getS (pc' := 29) (k := 57) (b := (157, 0)) dX12_holds_26 rfl rfl ck_13 (by decide) fl_X12_120 rfl hs rfl ?_
    refine g_iconstN (n := 0) (pc' := 30) dX12_holds_29 rfl ?_
    refine g_ialdN (pc' := 31) (v := _) dX12_holds_30 rfl rfl (by decide) (by omega) (rfl) ?_
    refine g_iconstN (n := 1) (pc' := 32) dX12_holds_31 rfl ?_
    refine g_icmp_ne (tgt := 39) (pc' := 35) dX12_holds_32 rfl (by decide) (fun c32 => ?_) (fun c32 => ?_)
    ·
      refine g_iconstN (n := 0) (pc' := 40) dX12_holds_39 rfl ?_
      refine g_zret dX12_holds_40 rfl (by rfl) (by decide) (by decide) ?_
      exact ⟨congrArg (fun z : Int32 => some (vI z)) (bi_f (P := (R c).1 e = some 1) (by rw [Vl_s v' c22]; intro z; exact c32 (Option.some.inj z))).symm, w'⟩
    ·
      refine g_iconstN (n := 1) (pc' := 36) dX12_holds_35 rfl ?_
      refine g_goto (tgt := 40) dX12_holds_36 (by decide) ?_
      refine g_zret dX12_holds_40 rfl (by rfl) (by decide) (by decide) ?_
      exact ⟨congrArg (fun z : Int32 => some (vI z)) (bi_t (P := (R c).1 e = some 1) (by rw [Vl_s v' c22, c32]; rfl)).symm, w'⟩
set_option maxRecDepth 4000 in
theorem lm_some {E : En} (hok : EOK E) {m : St} (hw : Wf m) {R : Rm} (hR : WR m R) {k f : Nat} {t late : Int32} {e : Nat → Int32} (hv : Lv E m k t f late e) {x : Int32} {d : Nat} (hd : 5 ≤ d) {Q : Option V → Hp → Prop} {h h0 : Hp} (hq : Hq m k t f late h) (hQ : ∀ h', Wk 0 h h' → Q (some (vI (bi (smP m R e x)))) h') : ∀ n c h1, c ≤ nC m → nC m - c = n → Wk 0 h h1 → (∀ i, i < c → ¬ (m 131 i = x ∧ (R i).1 e = some 1)) → G E m_X12_some d 0 0 Q h0 2 [some (vR MO), some (vI x), some (vI (nI c))] [] h1 0 0 := by
  have hCb := hw.c.2
  intro n
  induction n with
  | zero =>
    intro c h1 g1 g2 w1 hi
    have hq1 := hq.wk w1
    have hs := hq1.1
    refine g_iload_n (pc' := 3) dX12_some_2 rfl rfl ?_
    refine g_aload_n (pc' := 4) dX12_some_3 rfl rfl ?_
    refine g_getIv (v := nI (nC m)) (pc' := 7) (k := 30) dX12_some_4 rfl rfl ck_13 (by decide) fl_X12_375 rfl ((show h1.1 MO 30 = m 1 30 by rw [← hq1.2.1]; rfl).trans hw.c.1) ?_
    refine g_icmp_geN (tgt := 36) (pc' := 10) dX12_some_7 rfl (by decide) (by omega) (by omega) (fun c7 => ?_) (fun c7 => ?_)
    ·
      refine g_iconstN (n := 0) (pc' := 37) dX12_some_36 rfl ?_
      refine g_zret dX12_some_37 rfl (by rfl) (by decide) (by decide) ?_
      rw [bi_f (P := smP m R e x) (by rintro ⟨i, q1, q2⟩; exact hi i (by omega) q2)] at hQ
      exact hQ h1 w1
    · exact absurd c7 (by omega)
  | succ n ih =>
    intro c h1 g1 g2 w1 hi
    have hq1 := hq.wk w1
    have hs := hq1.1
    refine g_iload_n (pc' := 3) dX12_some_2 rfl rfl ?_
    refine g_aload_n (pc' := 4) dX12_some_3 rfl rfl ?_
    refine g_getIv (v := nI (nC m)) (pc' := 7) (k := 30) dX12_some_4 rfl rfl ck_13 (by decide) fl_X12_375 rfl ((show h1.1 MO 30 = m 1 30 by rw [← hq1.2.1]; rfl).trans hw.c.1) ?_
    refine g_icmp_geN (tgt := 36) (pc' := 10) dX12_some_7 rfl (by decide) (by omega) (by omega) (fun c7 => ?_) (fun c7 => ?_)
    · exact absurd c7 (by omega)
    ·
      refine g_aload_n (pc' := 11) dX12_some_10 rfl rfl ?_
      refine g_getS (pc' := 14) (k := 31) (b := (131, 0)) dX12_some_11 rfl rfl ck_13 (by decide) fl_X12_81 rfl hs rfl ?_
      refine g_iload_n (pc' := 15) dX12_some_14 rfl rfl ?_
      refine g_ialdN (pc' := 16) (v := m 131 c) dX12_some_15 rfl rfl (by decide) (by omega) ((show h1.1 (131, 0) c = m 131 c by rw [← hq1.2.1]; rfl)) ?_
      refine g_iload_n (pc' := 17) dX12_some_16 rfl rfl ?_
      refine g_icmp_ne (tgt := 30) (pc' := 20) dX12_some_17 rfl (by decide) (fun c17 => ?_) (fun c17 => ?_)
      ·
        refine g_iincN (k := 1) (pc' := 33) dX12_some_30 rfl rfl (by decide) rfl ?_
        try simp only [List.set]
        refine g_goto (tgt := 2) dX12_some_33 (by decide) ?_
        exact ih (c + 1) h1 (by omega) (by omega) (w1) (lt_s hi (fun z => c17 z.1))
      ·
        refine g_aload_n (pc' := 21) dX12_some_20 rfl rfl ?_
        refine g_iload_n (pc' := 22) dX12_some_21 rfl rfl ?_
        refine g_invV (pc' := 25) (cm_holds hok hw hR hv hq1 (c := c) (by omega)) dX12_some_22 rfl rfl ck_13 rfl ml_X12_416 im_X12_holds sl_X12_holds in_X12 co_X12_holds pd_X12_holds rfl (by omega) (by decide) ⟨by decide, by decide⟩ (Nat.le_of_ble_eq_true rfl) ?_
        rintro _ h2 ⟨rfl, w2⟩ -
        have hq2 := hq1.wk w2
        have hs := hq2.1
        refine g_ifB_eq (tgt := 30) (pc' := 28) dX12_some_25 rfl (by decide) (fun c25 => ?_) (fun c25 => ?_)
        ·
          refine g_iincN (k := 1) (pc' := 33) dX12_some_30 rfl rfl (by decide) rfl ?_
          try simp only [List.set]
          refine g_goto (tgt := 2) dX12_some_33 (by decide) ?_
          exact ih (c + 1) h2 (by omega) (by omega) (w1.tr w2) (lt_s hi (fun z => c25 z.2))
        ·
          refine g_iconstN (n := 1) (pc' := 29) dX12_some_28 rfl ?_
          refine g_zret dX12_some_29 rfl (by rfl) (by decide) (by decide) ?_
          rw [bi_t (P := smP m R e x) ⟨c, by omega, c17, c25⟩] at hQ
          exact hQ h2 (w1.tr w2)
set_option maxRecDepth 4000 in
theorem lm_all {E : En} (hok : EOK E) {m : St} (hw : Wf m) {R : Rm} (hR : WR m R) {k f : Nat} {t late : Int32} {e : Nat → Int32} (hv : Lv E m k t f late e) {x : Int32} {d : Nat} (hd : 5 ≤ d) {Q : Option V → Hp → Prop} {h h0 : Hp} (hq : Hq m k t f late h) (hQ : ∀ h', Wk 0 h h' → Q (some (vI (bi (alP m R e x)))) h') : ∀ n c h1, c ≤ nC m → nC m - c = n → Wk 0 h h1 → (∀ i, i < c → (m 131 i = x → (R i).1 e = some 1)) → G E m_X12_all d 0 0 Q h0 2 [some (vR MO), some (vI x), some (vI (nI c))] [] h1 0 0 := by
  have hCb := hw.c.2
  intro n
  induction n with
  | zero =>
    intro c h1 g1 g2 w1 hi
    have hq1 := hq.wk w1
    have hs := hq1.1
    refine g_iload_n (pc' := 3) dX12_all_2 rfl rfl ?_
    refine g_aload_n (pc' := 4) dX12_all_3 rfl rfl ?_
    refine g_getIv (v := nI (nC m)) (pc' := 7) (k := 30) dX12_all_4 rfl rfl ck_13 (by decide) fl_X12_375 rfl ((show h1.1 MO 30 = m 1 30 by rw [← hq1.2.1]; rfl).trans hw.c.1) ?_
    refine g_icmp_geN (tgt := 36) (pc' := 10) dX12_all_7 rfl (by decide) (by omega) (by omega) (fun c7 => ?_) (fun c7 => ?_)
    ·
      refine g_iconstN (n := 1) (pc' := 37) dX12_all_36 rfl ?_
      refine g_zret dX12_all_37 rfl (by rfl) (by decide) (by decide) ?_
      rw [bi_t (P := alP m R e x) (fun i q1 => hi i (by omega))] at hQ
      exact hQ h1 w1
    · exact absurd c7 (by omega)
  | succ n ih =>
    intro c h1 g1 g2 w1 hi
    have hq1 := hq.wk w1
    have hs := hq1.1
    refine g_iload_n (pc' := 3) dX12_all_2 rfl rfl ?_
    refine g_aload_n (pc' := 4) dX12_all_3 rfl rfl ?_
    refine g_getIv (v := nI (nC m)) (pc' := 7) (k := 30) dX12_all_4 rfl rfl ck_13 (by decide) fl_X12_375 rfl ((show h1.1 MO 30 = m 1 30 by rw [← hq1.2.1]; rfl).trans hw.c.1) ?_
    refine g_icmp_geN (tgt := 36) (pc' := 10) dX12_all_7 rfl (by decide) (by omega) (by omega) (fun c7 => ?_) (fun c7 => ?_)
    · exact absurd c7 (by omega)
    ·
      refine g_aload_n (pc' := 11) dX12_all_10 rfl rfl ?_
      refine g_getS (pc' := 14) (k := 31) (b := (131, 0)) dX12_all_11 rfl rfl ck_13 (by decide) fl_X12_81 rfl hs rfl ?_
      refine g_iload_n (pc' := 15) dX12_all_14 rfl rfl ?_
      refine g_ialdN (pc' := 16) (v := m 131 c) dX12_all_15 rfl rfl (by decide) (by omega) ((show h1.1 (131, 0) c = m 131 c by rw [← hq1.2.1]; rfl)) ?_
      refine g_iload_n (pc' := 17) dX12_all_16 rfl rfl ?_
      refine g_icmp_ne (tgt := 30) (pc' := 20) dX12_all_17 rfl (by decide) (fun c17 => ?_) (fun c17 => ?_)
      ·
        refine g_iincN (k := 1) (pc' := 33) dX12_all_30 rfl rfl (by decide) rfl ?_
        try simp only [List.set]
        refine g_goto (tgt := 2) dX12_all_33 (by decide) ?_
        exact ih (c + 1) h1 (by omega) (by omega) (w1) (lt_s hi (fun z => absurd z c17))
      ·
        refine g_aload_n (pc' := 21) dX12_all_20 rfl rfl ?_
        refine g_iload_n (pc' := 22) dX12_all_21 rfl rfl ?_
        refine g_invV (pc' := 25) (cm_holds hok hw hR hv hq1 (c := c) (by omega)) dX12_all_22 rfl rfl ck_13 rfl ml_X12_416 im_X12_holds sl_X12_holds in_X12 co_X12_holds pd_X12_holds rfl (by omega) (by decide) ⟨by decide, by decide⟩ (Nat.le_of_ble_eq_true rfl) ?_
        rintro _ h2 ⟨rfl, w2⟩ -
        have hq2 := hq1.wk w2
        have hs := hq2.1
        refine g_ifB_ne (tgt := 30) (pc' := 28) dX12_all_25 rfl (by decide) (fun c25 => ?_) (fun c25 => ?_)
        ·
          refine g_iincN (k := 1) (pc' := 33) dX12_all_30 rfl rfl (by decide) rfl ?_
          try simp only [List.set]
          refine g_goto (tgt := 2) dX12_all_33 (by decide) ?_
          exact ih (c + 1) h2 (by omega) (by omega) (w1.tr w2) (lt_s hi (fun _ => c25))
        ·
          refine g_iconstN (n := 0) (pc' := 29) dX12_all_28 rfl ?_
          refine g_zret dX12_all_29 rfl (by rfl) (by decide) (by decide) ?_
          rw [bi_f (P := alP m R e x) (fun z => c25 (z c (by omega) c17))] at hQ
          exact hQ h2 (w1.tr w2)
set_option maxRecDepth 4000 in
theorem cm_someR {E : En} (hok : EOK E) {h : Hp} {m : St} (hw : Wf m) {R : Rm} (hR : WR m R) {k f : Nat} {t late : Int32} {e : Nat → Int32} (hv : Lv E m k t f late e) (hq : Hq m k t f late h) (x : Int32) : Call E m_X12_some 5 0 0 [vR MO, vI x] h (fun r h' => r = some (vI (bi (smP m R e x))) ∧ Wk 0 h h') := by
  refine Call.enter hok (by decide) (Nat.le_of_ble_eq_true rfl) ?_
  show G E m_X12_some 5 0 0 _ h 0 [some (vR MO), some (vI x), none] [] h 0 0
  refine g_iconstN (n := 0) (pc' := 1) dX12_some_0 rfl ?_
  refine g_istore_n (pc' := 2) dX12_some_1 rfl (by decide) rfl ?_
  try simp only [List.set]
  exact lm_some hok hw hR hv (Nat.le_refl _) hq (fun h' w' => ⟨rfl, w'⟩) _ 0 h (Nat.zero_le _) rfl (Wk.rf 0 h) (fun i q => absurd q (Nat.not_lt_zero i))
set_option maxRecDepth 4000 in
theorem cm_allR {E : En} (hok : EOK E) {h : Hp} {m : St} (hw : Wf m) {R : Rm} (hR : WR m R) {k f : Nat} {t late : Int32} {e : Nat → Int32} (hv : Lv E m k t f late e) (hq : Hq m k t f late h) (x : Int32) : Call E m_X12_all 5 0 0 [vR MO, vI x] h (fun r h' => r = some (vI (bi (alP m R e x))) ∧ Wk 0 h h') := by
  refine Call.enter hok (by decide) (Nat.le_of_ble_eq_true rfl) ?_
  show G E m_X12_all 5 0 0 _ h 0 [some (vR MO), some (vI x), none] [] h 0 0
  refine g_iconstN (n := 0) (pc' := 1) dX12_all_0 rfl ?_
  refine g_istore_n (pc' := 2) dX12_all_1 rfl (by decide) rfl ?_
  try simp only [List.set]
  exact lm_all hok hw hR hv (Nat.le_refl _) hq (fun h' w' => ⟨rfl, w'⟩) _ 0 h (Nat.zero_le _) rfl (Wk.rf 0 h) (fun i q => absurd q (Nat.not_lt_zero i))
set_option maxRecDepth 4000 in
theorem lm_tells {E : En} (hok : EOK E) {m : St} (hw : Wf m) {R : Rm} (hR : WR m R) {k f : Nat} {t late : Int32} {e : Nat → Int32} (hv : Lv E m k t f late e) {x lo up no : Int32} (hx : isV x) {d : Nat} (hd : 5 ≤ d) {Q : Option V → Hp → Prop} {h h0 : Hp} (hq : Hq m k t f late h) (hQ : ∀ h', Wk 0 h h' → Q (some (vI (tlF m R e x lo up no (nC m) 0))) h') : ∀ n c h1, c ≤ nC m → nC m - c = n → Wk 0 h h1 → (tlF m R e x lo up no (nC m - c) c = tlF m R e x lo up no (nC m) 0) → G E m_X12_tells d 0 0 Q h0 3 [some (vR MO), some (vI x), some (vI lo), some (vI up), some (vI no), some (vI (nI c)), none] [] h1 0 0 := by
  have hCb := hw.c.2
  intro n
  induction n with
  | zero =>
    intro c h1 g1 g2 w1 hi
    have hq1 := hq.wk w1
    have hs := hq1.1
    refine g_iload (pc' := 5) dX12_tells_3 rfl rfl ?_
    refine g_aload_n (pc' := 6) dX12_tells_5 rfl rfl ?_
    refine g_getIv (v := nI (nC m)) (pc' := 9) (k := 30) dX12_tells_6 rfl rfl ck_13 (by decide) fl_X12_375 rfl ((show h1.1 MO 30 = m 1 30 by rw [← hq1.2.1]; rfl).trans hw.c.1) ?_
    refine g_icmp_geN (tgt := 103) (pc' := 12) dX12_tells_9 rfl (by decide) (by omega) (by omega) (fun c9 => ?_) (fun c9 => ?_)
    ·
      refine g_iload (pc' := 105) dX12_tells_103 rfl rfl ?_
      refine g_iret dX12_tells_105 rfl (by decide) (by decide) ?_
      have e0 : nC m - c = 0 := by omega
      rw [e0] at hi
      have q := hQ h1 w1
      rw [← hi] at q
      exact q
    · exact absurd c9 (by omega)
  | succ n ih =>
    intro c h1 g1 g2 w1 hi
    have hq1 := hq.wk w1
    have hs := hq1.1
    refine g_iload (pc' := 5) dX12_tells_3 rfl rfl ?_
    refine g_aload_n (pc' := 6) dX12_tells_5 rfl rfl ?_
    refine g_getIv (v := nI (nC m)) (pc' := 9) (k := 30) dX12_tells_6 rfl rfl ck_13 (by decide) fl_X12_375 rfl ((show h1.1 MO 30 = m 1 30 by rw [← hq1.2.1]; rfl).trans hw.c.1) ?_
    refine g_icmp_geN (tgt := 103) (pc' := 12) dX12_tells_9 rfl (by decide) (by omega) (by omega) (fun c9 => ?_) (fun c9 => ?_)
    · exact absurd c9 (by omega)
    ·
      refine g_aload_n (pc' := 13) dX12_tells_12 rfl rfl ?_
      refine g_getS (pc' := 16) (k := 31) (b := (131, 0)) dX12_tells_13 rfl rfl ck_13 (by decide) fl_X12_81 rfl hs rfl ?_
      refine g_iload (pc' := 18) dX12_tells_16 rfl rfl ?_
      refine g_ialdN (pc' := 19) (v := m 131 c) dX12_tells_18 rfl rfl (by decide) (by omega) ((show h1.1 (131, 0) c = m 131 c by rw [← hq1.2.1]; rfl)) ?_
      refine g_iload_n (pc' := 20) dX12_tells_19 rfl rfl ?_
      refine g_icmp_ne (tgt := 97) (pc' := 23) dX12_tells_20 rfl (by decide) (fun c20 => ?_) (fun c20 => ?_)
      ·
        refine g_iincN (k := 1) (pc' := 100) dX12_tells_97 rfl rfl (by decide) rfl ?_
        try simp only [List.set]
        refine g_goto (tgt := 3) dX12_tells_100 (by decide) ?_
        refine ih (c + 1) h1 (by omega) (by omega) (w1) ?_
        rw [← hi]
        have en : nC m - c = nC m - (c + 1) + 1 := by omega
        rw [en]
        exact (cif_f (fun z => c20 z.1)).symm
      ·
        refine g_aload_n (pc' := 24) dX12_tells_23 rfl rfl ?_
        refine g_iload (pc' := 26) dX12_tells_24 rfl rfl ?_
        refine g_invV (pc' := 29) (cm_holds hok hw hR hv hq1 (c := c) (by omega)) dX12_tells_26 rfl rfl ck_13 rfl ml_X12_416 im_X12_holds sl_X12_holds in_X12 co_X12_holds pd_X12_holds rfl (by omega) (by decide) ⟨by decide, by decide⟩ (Nat.le_of_ble_eq_true rfl) ?_
        rintro _ h2 ⟨rfl, w2⟩ -
        have hq2 := hq1.wk w2
        have hs := hq2.1
        refine g_ifB_ne (tgt := 35) (pc' := 32) dX12_tells_29 rfl (by decide) (fun c29 => ?_) (fun c29 => ?_)
        ·
          obtain ⟨u, y, z, e1, e2, e3, hz, hC, hS⟩ := hR c (by omega)
          have hyz := hC.lt
          have hy : y ≤ 200 := by omega
          refine g_aload_n (pc' := 36) dX12_tells_35 rfl rfl ?_
          refine g_aload_n (pc' := 37) dX12_tells_36 rfl rfl ?_
          refine g_getS (pc' := 40) (k := 32) (b := (132, 0)) dX12_tells_37 rfl rfl ck_13 (by decide) fl_X12_84 rfl hs rfl ?_
          refine g_iload (pc' := 42) dX12_tells_40 rfl rfl ?_
          refine g_ialdN (pc' := 43) (v := nI u) dX12_tells_42 rfl rfl (by decide) (by omega) ((show h2.1 (132, 0) c = m 132 c by rw [← hq2.2.1]; rfl).trans e1) ?_
          refine g_aload_n (pc' := 44) dX12_tells_43 rfl rfl ?_
          refine g_getS (pc' := 47) (k := 33) (b := (133, 0)) dX12_tells_44 rfl rfl ck_13 (by decide) fl_X12_87 rfl hs rfl ?_
          refine g_iload (pc' := 49) dX12_tells_47 rfl rfl ?_
          refine g_ialdN (pc' := 50) (v := nI y) dX12_tells_49 rfl rfl (by decide) (by omega) ((show h2.1 (133, 0) c = m 133 c by rw [← hq2.2.1]; rfl).trans e2) ?_
          refine g_invV (pc' := 53) (cm_works hok hv hq2 (hS (by rw [c20]; exact hx)) hy) dX12_tells_50 rfl rfl ck_13 rfl ml_X12_413 im_X12_works sl_X12_works in_X12 co_X12_works pd_X12_works rfl (by omega) (by decide) ⟨by decide, by decide⟩ (Nat.le_of_ble_eq_true rfl) ?_
          rintro _ h3 ⟨rfl, w3, v3⟩ -
          have hs := (hq2.wk w3).1
          refine g_aload_n (pc' := 54) dX12_tells_53 rfl rfl ?_
          refine g_getS (pc' := 57) (k := 58) (b := (158, 0)) dX12_tells_54 rfl rfl ck_13 (by decide) fl_X12_123 rfl hs rfl ?_
          refine g_iconstN (n := 0) (pc' := 58) dX12_tells_57 rfl ?_
          refine g_zaldN (pc' := 59) (v := _) dX12_tells_58 rfl rfl (by decide) (by omega) (rfl) ?_
          refine g_if_eq (tgt := 66) (pc' := 62) dX12_tells_59 rfl (by decide) (fun c59 => ?_) (fun c59 => ?_)
          ·
            refine g_aload_n (pc' := 67) dX12_tells_66 rfl rfl ?_
            refine g_getS (pc' := 70) (k := 57) (b := (157, 0)) dX12_tells_67 rfl rfl ck_13 (by decide) fl_X12_120 rfl hs rfl ?_
            refine g_iconstN (n := 0) (pc' := 71) dX12_tells_70 rfl ?_
            refine g_ialdN (pc' := 72) (v := _) dX12_tells_71 rfl rfl (by decide) (by omega) (rfl) ?_
            refine g_istore (pc' := 74) dX12_tells_72 rfl (by decide) rfl ?_
            try simp only [List.set]
            refine g_iload (pc' := 76) dX12_tells_74 rfl rfl ?_
            refine g_iload_n (pc' := 77) dX12_tells_76 rfl rfl ?_
            refine g_icmp_ge (tgt := 84) (pc' := 80) dX12_tells_77 rfl (by decide) (fun c77 => ?_) (fun c77 => ?_)
            ·
              refine g_iload (pc' := 86) dX12_tells_84 rfl rfl ?_
              refine g_iload_n (pc' := 87) dX12_tells_86 rfl rfl ?_
              refine g_icmp_le (tgt := 94) (pc' := 90) dX12_tells_87 rfl (by decide) (fun c87 => ?_) (fun c87 => ?_)
              ·
                refine g_iload (pc' := 96) dX12_tells_94 rfl rfl ?_
                refine g_iret dX12_tells_96 rfl (by decide) (by decide) ?_
                have q := hQ h3 ((w1.tr w2).tr w3)
                rw [← hi] at q
                have en : nC m - c = nC m - (c + 1) + 1 := by omega
                rw [en] at q
                have ec : tlF m R e x lo up no (nC m - (c + 1) + 1) c = clp lo up ((R c).2 e) := cif_t ⟨c20, c29⟩
                rw [ec] at q
                have ev : ((R c).2 e).getD 0 = h3.1 (157, 0) 0 := by rw [Vl_s v3 c59]; rfl
                unfold clp at q
                rw [ev] at q
                rw [if_neg (Int32.not_lt.mpr c77)] at q
                rw [if_neg (Int32.not_lt.mpr c87)] at q
                exact q
              ·
                refine g_iload_n (pc' := 91) dX12_tells_90 rfl rfl ?_
                refine g_goto (tgt := 96) dX12_tells_91 (by decide) ?_
                refine g_iret dX12_tells_96 rfl (by decide) (by decide) ?_
                have q := hQ h3 ((w1.tr w2).tr w3)
                rw [← hi] at q
                have en : nC m - c = nC m - (c + 1) + 1 := by omega
                rw [en] at q
                have ec : tlF m R e x lo up no (nC m - (c + 1) + 1) c = clp lo up ((R c).2 e) := cif_t ⟨c20, c29⟩
                rw [ec] at q
                have ev : ((R c).2 e).getD 0 = h3.1 (157, 0) 0 := by rw [Vl_s v3 c59]; rfl
                unfold clp at q
                rw [ev] at q
                rw [if_neg (Int32.not_lt.mpr c77)] at q
                rw [if_pos (Int32.not_le.mp c87)] at q
                exact q
            ·
              refine g_iload_n (pc' := 81) dX12_tells_80 rfl rfl ?_
              refine g_goto (tgt := 96) dX12_tells_81 (by decide) ?_
              refine g_iret dX12_tells_96 rfl (by decide) (by decide) ?_
              have q := hQ h3 ((w1.tr w2).tr w3)
              rw [← hi] at q
              have en : nC m - c = nC m - (c + 1) + 1 := by omega
              rw [en] at q
              have ec : tlF m R e x lo up no (nC m - (c + 1) + 1) c = clp lo up ((R c).2 e) := cif_t ⟨c20, c29⟩
              rw [ec] at q
              have ev : ((R c).2 e).getD 0 = h3.1 (157, 0) 0 := by rw [Vl_s v3 c59]; rfl
              unfold clp at q
              rw [ev] at q
              rw [if_pos (Int32.not_le.mp c77)] at q
              exact q
          ·
            refine g_iconstN (n := 0) (pc' := 63) dX12_tells_62 rfl ?_
            refine g_goto (tgt := 72) dX12_tells_63 (by decide) ?_
            refine g_istore (pc' := 74) dX12_tells_72 rfl (by decide) rfl ?_
            try simp only [List.set]
            refine g_iload (pc' := 76) dX12_tells_74 rfl rfl ?_
            refine g_iload_n (pc' := 77) dX12_tells_76 rfl rfl ?_
            refine g_icmp_ge (tgt := 84) (pc' := 80) dX12_tells_77 rfl (by decide) (fun c77 => ?_) (fun c77 => ?_)
            ·
              refine g_iload (pc' := 86) dX12_tells_84 rfl rfl ?_
              refine g_iload_n (pc' := 87) dX12_tells_86 rfl rfl ?_
              refine g_icmp_le (tgt := 94) (pc' := 90) dX12_tells_87 rfl (by decide) (fun c87 => ?_) (fun c87 => ?_)
              ·
                refine g_iload (pc' := 96) dX12_tells_94 rfl rfl ?_
                refine g_iret dX12_tells_96 rfl (by decide) (by decide) ?_
                have q := hQ h3 ((w1.tr w2).tr w3)
                rw [← hi] at q
                have en : nC m - c = nC m - (c + 1) + 1 := by omega
                rw [en] at q
                have ec : tlF m R e x lo up no (nC m - (c + 1) + 1) c = clp lo up ((R c).2 e) := cif_t ⟨c20, c29⟩
                rw [ec] at q
                have ev : ((R c).2 e).getD 0 = nI 0 := by rw [Vl_n v3 c59]; rfl
                unfold clp at q
                rw [ev] at q
                rw [if_neg (Int32.not_lt.mpr c77)] at q
                rw [if_neg (Int32.not_lt.mpr c87)] at q
                exact q
              ·
                refine g_iload_n (pc' := 91) dX12_tells_90 rfl rfl ?_
                refine g_goto (tgt := 96) dX12_tells_91 (by decide) ?_
                refine g_iret dX12_tells_96 rfl (by decide) (by decide) ?_
                have q := hQ h3 ((w1.tr w2).tr w3)
                rw [← hi] at q
                have en : nC m - c = nC m - (c + 1) + 1 := by omega
                rw [en] at q
                have ec : tlF m R e x lo up no (nC m - (c + 1) + 1) c = clp lo up ((R c).2 e) := cif_t ⟨c20, c29⟩
                rw [ec] at q
                have ev : ((R c).2 e).getD 0 = nI 0 := by rw [Vl_n v3 c59]; rfl
                unfold clp at q
                rw [ev] at q
                rw [if_neg (Int32.not_lt.mpr c77)] at q
                rw [if_pos (Int32.not_le.mp c87)] at q
                exact q
            ·
              refine g_iload_n (pc' := 81) dX12_tells_80 rfl rfl ?_
              refine g_goto (tgt := 96) dX12_tells_81 (by decide) ?_
              refine g_iret dX12_tells_96 rfl (by decide) (by decide) ?_
              have q := hQ h3 ((w1.tr w2).tr w3)
              rw [← hi] at q
              have en : nC m - c = nC m - (c + 1) + 1 := by omega
              rw [en] at q
              have ec : tlF m R e x lo up no (nC m - (c + 1) + 1) c = clp lo up ((R c).2 e) := cif_t ⟨c20, c29⟩
              rw [ec] at q
              have ev : ((R c).2 e).getD 0 = nI 0 := by rw [Vl_n v3 c59]; rfl
              unfold clp at q
              rw [ev] at q
              rw [if_pos (Int32.not_le.mp c77)] at q
              exact q
        ·
          refine g_goto (tgt := 97) dX12_tells_32 (by decide) ?_
          refine g_iincN (k := 1) (pc' := 100) dX12_tells_97 rfl rfl (by decide) rfl ?_
          try simp only [List.set]
          refine g_goto (tgt := 3) dX12_tells_100 (by decide) ?_
          refine ih (c + 1) h2 (by omega) (by omega) (w1.tr w2) ?_
          rw [← hi]
          have en : nC m - c = nC m - (c + 1) + 1 := by omega
          rw [en]
          exact (cif_f (fun z => c29 z.2)).symm
set_option maxRecDepth 4000 in
theorem cm_tells {E : En} (hok : EOK E) {h : Hp} {m : St} (hw : Wf m) {R : Rm} (hR : WR m R) {k f : Nat} {t late : Int32} {e : Nat → Int32} (hv : Lv E m k t f late e) (hq : Hq m k t f late h) (x lo up no : Int32) (hx : isV x) : Call E m_X12_tells 5 0 0 [vR MO, vI x, vI lo, vI up, vI no] h (fun r h' => r = some (vI (tlF m R e x lo up no (nC m) 0)) ∧ Wk 0 h h') := by
  refine Call.enter hok (by decide) (Nat.le_of_ble_eq_true rfl) ?_
  show G E m_X12_tells 5 0 0 _ h 0 [some (vR MO), some (vI x), some (vI lo), some (vI up), some (vI no), none, none] [] h 0 0
  refine g_iconstN (n := 0) (pc' := 1) dX12_tells_0 rfl ?_
  refine g_istore (pc' := 3) dX12_tells_1 rfl (by decide) rfl ?_
  try simp only [List.set]
  exact lm_tells hok hw hR hv hx (Nat.le_refl _) hq (fun h' w' => ⟨rfl, w'⟩) _ 0 h (Nat.zero_le _) rfl (Wk.rf 0 h) rfl
