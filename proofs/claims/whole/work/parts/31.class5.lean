/-- more that always holds of the reference's numbers: the terms of gifts are 0 to 3; who has a toy -/
def Wx (m : St) : Prop := (∀ g, g < nGf m → 0 ≤ m 168 g ∧ m 168 g ≤ 3) ∧ (∀ t, t < nT m → (¬ m 118 t = 1 → m 119 t = -1) ∧ (m 118 t = 1 → ∃ f : Nat, f < nF m ∧ m 119 t = nI f)) ∧ (∀ t, t < nT m → 0 ≤ m 123 t ∧ m 123 t ≤ 699) ∧ (∀ f k, f < nF m → k < 8 → m 186 (8 * f + k) = -1 ∨ (0 ≤ m 186 (8 * f + k) ∧ m 186 (8 * f + k) ≤ 699)) ∧ (∀ i, i < nA m → ¬ m 178 i = 0 → ∃ g : Nat, g < nF m ∧ m 176 i = nI g) ∧ (∀ k s, k < nK m → s < 6 → (0 ≤ m 113 (6 * k + s) ∧ m 113 (6 * k + s) ≤ 6) ∧ (0 ≤ m 114 (6 * k + s) ∧ m 114 (6 * k + s) ≤ 400)) ∧ (∀ t s, t < nT m → s < 6 → 0 ≤ m 125 (6 * t + s) ∧ m 125 (6 * t + s) ≤ m 113 (6 * kd m t + s)) ∧ (∀ s, s < 6 → 0 ≤ m 191 s ∧ m 191 s ≤ 600) ∧ (∀ k, k < nK m → 1 ≤ m 109 k ∧ m 109 k ≤ 20000) ∧ (0 ≤ m 1 6 ∧ m 1 6 ≤ 2000) ∧ (∃ n : Nat, n ≤ 300 ∧ m 1 71 = nI n) ∧ (∀ t, t < nT m → -1 ≤ m 120 t ∧ m 120 t ≤ 899) ∧ (∀ k s, nK m ≤ k → s < 6 → m 113 (6 * k + s) = 0 ∧ m 114 (6 * k + s) = 0) ∧ (∀ t, nT m ≤ t → m 117 t = 0 ∧ m 121 t = 0 ∧ m 122 t = 0 ∧ m 124 t = 0) ∧ (∀ f, nF m ≤ f → m 129 f = 0 ∧ ∀ k, k < 8 → m 186 (8 * f + k) = -1) ∧ (∀ r f, nR m ≤ r ∨ nF m ≤ f → f < 10 → m 166 (10 * r + f) = -1) ∧ (∀ t, t < nT m → 0 ≤ m 118 t ∧ m 118 t ≤ 3) ∧ (∀ i, i < nA m → ¬ m 178 i = 0 → m 177 i = 0 ∨ m 177 i = 1 ∨ m 177 i = 2) ∧ True
theorem Wx.gf {m : St} (w : Wx m) : ∀ g, g < nGf m → 0 ≤ m 168 g ∧ m 168 g ≤ 3 := w.1
theorem Wx.ho {m : St} (w : Wx m) : ∀ t, t < nT m → (¬ m 118 t = 1 → m 119 t = -1) ∧ (m 118 t = 1 → ∃ f : Nat, f < nF m ∧ m 119 t = nI f) := w.2.1
theorem Wx.ca {m : St} (w : Wx m) : ∀ t, t < nT m → 0 ≤ m 123 t ∧ m 123 t ≤ 699 := w.2.2.1
theorem Wx.si {m : St} (w : Wx m) : ∀ f k, f < nF m → k < 8 → m 186 (8 * f + k) = -1 ∨ (0 ≤ m 186 (8 * f + k) ∧ m 186 (8 * f + k) ≤ 699) := w.2.2.2.1
theorem Wx.ac {m : St} (w : Wx m) : ∀ i, i < nA m → ¬ m 178 i = 0 → ∃ g : Nat, g < nF m ∧ m 176 i = nI g := w.2.2.2.2.1
theorem Wx.pc {m : St} (w : Wx m) : ∀ k s, k < nK m → s < 6 → (0 ≤ m 113 (6 * k + s) ∧ m 113 (6 * k + s) ≤ 6) ∧ (0 ≤ m 114 (6 * k + s) ∧ m 114 (6 * k + s) ≤ 400) := w.2.2.2.2.2.1
theorem Wx.ha {m : St} (w : Wx m) : ∀ t s, t < nT m → s < 6 → 0 ≤ m 125 (6 * t + s) ∧ m 125 (6 * t + s) ≤ m 113 (6 * kd m t + s) := w.2.2.2.2.2.2.1
theorem Wx.mi {m : St} (w : Wx m) : ∀ s, s < 6 → 0 ≤ m 191 s ∧ m 191 s ≤ 600 := w.2.2.2.2.2.2.2.1
theorem Wx.pr {m : St} (w : Wx m) : ∀ k, k < nK m → 1 ≤ m 109 k ∧ m 109 k ≤ 20000 := w.2.2.2.2.2.2.2.2.1
theorem Wx.bg {m : St} (w : Wx m) : 0 ≤ m 1 6 ∧ m 1 6 ≤ 2000 := w.2.2.2.2.2.2.2.2.2.1
theorem Wx.le {m : St} (w : Wx m) : ∃ n : Nat, n ≤ 300 ∧ m 1 71 = nI n := w.2.2.2.2.2.2.2.2.2.2.1
theorem Wx.du {m : St} (w : Wx m) : ∀ t, t < nT m → -1 ≤ m 120 t ∧ m 120 t ≤ 899 := w.2.2.2.2.2.2.2.2.2.2.2.1
theorem Wx.zk {m : St} (w : Wx m) : ∀ k s, nK m ≤ k → s < 6 → m 113 (6 * k + s) = 0 ∧ m 114 (6 * k + s) = 0 := w.2.2.2.2.2.2.2.2.2.2.2.2.1
theorem Wx.zt {m : St} (w : Wx m) : ∀ t, nT m ≤ t → m 117 t = 0 ∧ m 121 t = 0 ∧ m 122 t = 0 ∧ m 124 t = 0 := w.2.2.2.2.2.2.2.2.2.2.2.2.2.1
theorem Wx.zf {m : St} (w : Wx m) : ∀ f, nF m ≤ f → m 129 f = 0 ∧ ∀ k, k < 8 → m 186 (8 * f + k) = -1 := w.2.2.2.2.2.2.2.2.2.2.2.2.2.2.1
theorem Wx.zr {m : St} (w : Wx m) : ∀ r f, nR m ≤ r ∨ nF m ≤ f → f < 10 → m 166 (10 * r + f) = -1 := w.2.2.2.2.2.2.2.2.2.2.2.2.2.2.2.1
theorem Wx.wh {m : St} (w : Wx m) : ∀ t, t < nT m → 0 ≤ m 118 t ∧ m 118 t ≤ 3 := w.2.2.2.2.2.2.2.2.2.2.2.2.2.2.2.2.1
theorem Wx.fi {m : St} (w : Wx m) : ∀ i, i < nA m → ¬ m 178 i = 0 → m 177 i = 0 ∨ m 177 i = 1 ∨ m 177 i = 2 := w.2.2.2.2.2.2.2.2.2.2.2.2.2.2.2.2.2.1
/-- one term, as the class asks it -/
def tbC (m : St) (f : Nat) (x n : Int32) : Prop := (x = 0 ∧ ¬ m 128 f = n) ∨ (x = 1 ∧ nI f = n) ∨ (x = 2 ∧ n < m 1 2) ∨ ((¬ x = 0 ∧ ¬ x = 1 ∧ ¬ x = 2) ∧ m 127 f < n)
theorem tbC_iff {m : St} {f g : Nat} (q : 0 ≤ m 168 g ∧ m 168 g ≤ 3) : tbC m f (m 168 g) (m 169 g) ↔ termBars m g f := by
  have hc : m 168 g = 0 ∨ m 168 g = 1 ∨ m 168 g = 2 ∨ m 168 g = 3 := by
    obtain ⟨a, b⟩ := q
    rw [Int32.le_iff_toInt_le] at a b
    have a' : (0 : Int) ≤ (m 168 g).toInt := a
    have b' : (m 168 g).toInt ≤ (3 : Int) := b
    rcases (show (m 168 g).toInt = 0 ∨ (m 168 g).toInt = 1 ∨ (m 168 g).toInt = 2 ∨ (m 168 g).toInt = 3 by omega) with z | z | z | z
    · exact Or.inl (Int32.toInt_inj.mp z)
    · exact Or.inr (Or.inl (Int32.toInt_inj.mp z))
    · exact Or.inr (Or.inr (Or.inl (Int32.toInt_inj.mp z)))
    · exact Or.inr (Or.inr (Or.inr (Int32.toInt_inj.mp z)))
  unfold tbC termBars
  rcases hc with z | z | z | z <;> rw [z] <;> simp
theorem bar_iff {m : St} {h : Hp} (hc : Cp m h) (hx : Wx m) {t f c : Nat} (ht : t < nT m) (h6 : h.1 (3, t) 6 = nI c) (hcb : c ≤ nGf m) (hg : nGf m ≤ 20) : (∃ i, i < c ∧ tbC m f (h.1 (27, t) i) (h.1 (28, t) i)) ↔ barred m t f := by
  obtain ⟨c', e1, e2, e3⟩ := hc.c7 t ht
  have : c = c' := by
    have e := h6.symm.trans e1
    rwa [nI_eq (by omega) (by omega)] at e
  subst this
  rw [e3 (tbC m f)]
  unfold barred
  constructor
  · rintro ⟨g, q1, q2, q3⟩
    exact ⟨g, q1, q2, (tbC_iff (hx.1 g q1)).mp q3⟩
  · rintro ⟨g, q1, q2, q3⟩
    exact ⟨g, q1, q2, (tbC_iff (hx.1 g q1)).mpr q3⟩
set_option maxRecDepth 4000 in
theorem cx_termBars {E : En} (hok : EOK E) {h : Hp} {m : St} (hc : Cp m h) (hw : Wf m) {f : Nat} (hf : f < nF m) (x n : Int32) : Call E m_X8_termBars 0 0 0 [vI x, vI n, vR (4, f), vI (m 1 2)] h (fun r0 h' => r0 = some (vI (bi (tbC m f x n))) ∧ h = h') := by
  have hs := hc.s
  have hKb := hw.k.2
  have hTb := hw.t.2
  have hFb := hw.f.2
  have hRb := hw.r.2
  have hGb := hw.g.2
  have hAb := hw.a.2
  have hTlb := hw.tl.2
  have hNwb := hw.w.2
  refine Call.enter hok (by decide) (Nat.le_of_ble_eq_true rfl) ?_
  show G E m_X8_termBars 0 0 0 _ h 0 [some (vI x), some (vI n), some (vR (4, f)), some (vI (m 1 2))] [] h 0 0
  refine g_iload_n (pc' := 1) dX8_termBars_0 rfl rfl ?_
  rcases Classical.em (x = nI 0) with rfl | w0
  ·
    refine g_tabIn (off := 27) (tgt := 28) dX8_termBars_1 (by decide) (by decide) rfl (by decide) ?_
    refine g_aload_n (pc' := 29) dX8_termBars_28 rfl rfl ?_
    refine g_getIv (v := m 128 (f)) (pc' := 32) (k := 3) dX8_termBars_29 rfl rfl ck_2 (by decide) fl_X8_61 rfl (hc.f3 (f := f) (by omega)) ?_
    refine g_iload_n (pc' := 33) dX8_termBars_32 rfl rfl ?_
    refine g_icmp_eq (tgt := 40) (pc' := 36) dX8_termBars_33 rfl (by decide) (fun c33 => ?_) (fun c33 => ?_)
    ·
      refine g_iconstN (n := 0) (pc' := 41) dX8_termBars_40 rfl ?_
      refine g_zret dX8_termBars_41 rfl (by rfl) (by decide) (by decide) ?_
      exact ⟨congrArg (fun z : Int32 => some (vI z)) (bi_f (P := tbC m f (nI 0) n) (fun z => by rcases z with z | z | z | z; exact z.2 c33; exact absurd z.1 (by decide); exact absurd z.1 (by decide); exact z.1.1 rfl)).symm, rfl⟩
    ·
      refine g_iconstN (n := 1) (pc' := 37) dX8_termBars_36 rfl ?_
      refine g_goto (tgt := 41) dX8_termBars_37 (by decide) ?_
      refine g_zret dX8_termBars_41 rfl (by rfl) (by decide) (by decide) ?_
      exact ⟨congrArg (fun z : Int32 => some (vI z)) (bi_t (P := tbC m f (nI 0) n) (Or.inl ⟨rfl, c33⟩)).symm, rfl⟩
  rcases Classical.em (x = nI 1) with rfl | w1
  ·
    refine g_tabIn (off := 41) (tgt := 42) dX8_termBars_1 (by decide) (by decide) rfl (by decide) ?_
    refine g_aload_n (pc' := 43) dX8_termBars_42 rfl rfl ?_
    refine g_getIv (v := nI (f)) (pc' := 46) (k := 0) dX8_termBars_43 rfl rfl ck_2 (by decide) fl_X8_66 rfl (hc.f0 (f := f) (by omega)) ?_
    refine g_iload_n (pc' := 47) dX8_termBars_46 rfl rfl ?_
    refine g_icmp_ne (tgt := 54) (pc' := 50) dX8_termBars_47 rfl (by decide) (fun c47 => ?_) (fun c47 => ?_)
    ·
      refine g_iconstN (n := 0) (pc' := 55) dX8_termBars_54 rfl ?_
      refine g_zret dX8_termBars_55 rfl (by rfl) (by decide) (by decide) ?_
      exact ⟨congrArg (fun z : Int32 => some (vI z)) (bi_f (P := tbC m f (nI 1) n) (fun z => by rcases z with z | z | z | z; exact absurd z.1 (by decide); exact c47 z.2; exact absurd z.1 (by decide); exact z.1.2.1 rfl)).symm, rfl⟩
    ·
      refine g_iconstN (n := 1) (pc' := 51) dX8_termBars_50 rfl ?_
      refine g_goto (tgt := 55) dX8_termBars_51 (by decide) ?_
      refine g_zret dX8_termBars_55 rfl (by rfl) (by decide) (by decide) ?_
      exact ⟨congrArg (fun z : Int32 => some (vI z)) (bi_t (P := tbC m f (nI 1) n) (Or.inr (Or.inl ⟨rfl, c47⟩))).symm, rfl⟩
  rcases Classical.em (x = nI 2) with rfl | w2
  ·
    refine g_tabIn (off := 55) (tgt := 56) dX8_termBars_1 (by decide) (by decide) rfl (by decide) ?_
    refine g_iload_n (pc' := 57) dX8_termBars_56 rfl rfl ?_
    refine g_iload_n (pc' := 58) dX8_termBars_57 rfl rfl ?_
    refine g_icmp_le (tgt := 65) (pc' := 61) dX8_termBars_58 rfl (by decide) (fun c58 => ?_) (fun c58 => ?_)
    ·
      refine g_iconstN (n := 0) (pc' := 66) dX8_termBars_65 rfl ?_
      refine g_zret dX8_termBars_66 rfl (by rfl) (by decide) (by decide) ?_
      exact ⟨congrArg (fun z : Int32 => some (vI z)) (bi_f (P := tbC m f (nI 2) n) (fun z => by rcases z with z | z | z | z; exact absurd z.1 (by decide); exact absurd z.1 (by decide); exact Int32.not_le.mpr z.2 c58; exact z.1.2.2 rfl)).symm, rfl⟩
    ·
      refine g_iconstN (n := 1) (pc' := 62) dX8_termBars_61 rfl ?_
      refine g_goto (tgt := 66) dX8_termBars_62 (by decide) ?_
      refine g_zret dX8_termBars_66 rfl (by rfl) (by decide) (by decide) ?_
      exact ⟨congrArg (fun z : Int32 => some (vI z)) (bi_t (P := tbC m f (nI 2) n) (Or.inr (Or.inr (Or.inl ⟨rfl, Int32.not_le.mp c58⟩)))).symm, rfl⟩
  refine g_tabOut (tgt := 67) dX8_termBars_1 (tab_out 2 (fun i hi => by rcases (show i = 0 ∨ i = 1 ∨ i = 2 by omega) with rfl | rfl | rfl <;> assumption)) (by decide) ?_
  refine g_aload_n (pc' := 68) dX8_termBars_67 rfl rfl ?_
  refine g_getIv (v := m 127 (f)) (pc' := 71) (k := 2) dX8_termBars_68 rfl rfl ck_2 (by decide) fl_X8_67 rfl (hc.f2 (f := f) (by omega)) ?_
  refine g_iload_n (pc' := 72) dX8_termBars_71 rfl rfl ?_
  refine g_icmp_ge (tgt := 79) (pc' := 75) dX8_termBars_72 rfl (by decide) (fun c72 => ?_) (fun c72 => ?_)
  ·
    refine g_iconstN (n := 0) (pc' := 80) dX8_termBars_79 rfl ?_
    refine g_zret dX8_termBars_80 rfl (by rfl) (by decide) (by decide) ?_
    exact ⟨congrArg (fun z : Int32 => some (vI z)) (bi_f (P := tbC m f x n) (fun z => by rcases z with z | z | z | z; exact w0 z.1; exact w1 z.1; exact w2 z.1; exact Int32.not_le.mpr z.2 c72)).symm, rfl⟩
  ·
    refine g_iconstN (n := 1) (pc' := 76) dX8_termBars_75 rfl ?_
    refine g_goto (tgt := 80) dX8_termBars_76 (by decide) ?_
    refine g_zret dX8_termBars_80 rfl (by rfl) (by decide) (by decide) ?_
    exact ⟨congrArg (fun z : Int32 => some (vI z)) (bi_t (P := tbC m f x n) (Or.inr (Or.inr (Or.inr ⟨⟨w0, w1, w2⟩, Int32.not_le.mp c72⟩)))).symm, rfl⟩
set_option maxRecDepth 4000 in
theorem lx_termsBar {E : En} (hok : EOK E) {h h0 : Hp} {m : St} (hc : Cp m h) (hw : Wf m) {t f c : Nat} (ht : t < nT m) (hf : f < nF m) (hx : Wx m) (h6 : h.1 (3, t) 6 = nI c) (hcb : c ≤ nGf m) {d : Nat} (hd : 1 ≤ d) {Q : Option V → Hp → Prop} (hQ : Q (some (vI (bi (barred m t f)))) h) : ∀ n i : Nat, i ≤ c → c - i = n → (∀ j, j < i → ¬ tbC m f (h.1 (27, t) j) (h.1 (28, t) j)) → G E m_X8_termsBar d 0 0 Q h0 2 [some (vR (3, t)), some (vR (4, f)), some (vI (m 1 2)), some (vI (nI i))] [] (h) 0 0 := by
  have hs := hc.s
  have hKb := hw.k.2
  have hTb := hw.t.2
  have hFb := hw.f.2
  have hRb := hw.r.2
  have hGb := hw.g.2
  have hAb := hw.a.2
  have hTlb := hw.tl.2
  have hNwb := hw.w.2
  intro n
  induction n with
  | zero =>
    intro i h1 h2 hi
    refine g_iload_n (pc' := 3) dX8_termsBar_2 rfl rfl ?_
    refine g_aload_n (pc' := 4) dX8_termsBar_3 rfl rfl ?_
    refine g_getIv (v := nI (c)) (pc' := 7) (k := 6) dX8_termsBar_4 rfl rfl ck_9 (by decide) fl_X8_54 rfl (h6) ?_
    refine g_icmp_geN (tgt := 44) (pc' := 10) dX8_termsBar_7 rfl (by decide) (by omega) (by omega) (fun c7 => ?_) (fun c7 => ?_)
    ·
      refine g_iconstN (n := 0) (pc' := 45) dX8_termsBar_44 rfl ?_
      refine g_zret dX8_termsBar_45 rfl (by rfl) (by decide) (by decide) ?_
      rw [bi_f (P := barred m t f) (fun z => by obtain ⟨j, q1, q2⟩ := (bar_iff hc hx ht h6 hcb hGb).mpr z; exact hi j (by omega) q2)] at hQ
      exact hQ
    · exact absurd c7 (by omega)
  | succ n ih =>
    intro i h1 h2 hi
    refine g_iload_n (pc' := 3) dX8_termsBar_2 rfl rfl ?_
    refine g_aload_n (pc' := 4) dX8_termsBar_3 rfl rfl ?_
    refine g_getIv (v := nI (c)) (pc' := 7) (k := 6) dX8_termsBar_4 rfl rfl ck_9 (by decide) fl_X8_54 rfl (h6) ?_
    refine g_icmp_geN (tgt := 44) (pc' := 10) dX8_termsBar_7 rfl (by decide) (by omega) (by omega) (fun c7 => ?_) (fun c7 => ?_)
    · exact absurd c7 (by omega)
    ·
      refine g_iload_n (pc' := 11) dX8_termsBar_10 rfl rfl ?_
      refine g_bipushN (n := 20) (pc' := 13) dX8_termsBar_11 rfl (by decide) ?_
      refine g_icmp_geN (tgt := 44) (pc' := 16) dX8_termsBar_13 rfl (by decide) (by omega) (by omega) (fun c13 => ?_) (fun c13 => ?_)
      · exact absurd c13 (by omega)
      ·
        refine g_aload_n (pc' := 17) dX8_termsBar_16 rfl rfl ?_
        refine g_getS (pc' := 20) (k := 4) (b := (27, t)) dX8_termsBar_17 rfl rfl ck_9 (by decide) fl_X8_36 rfl hs rfl ?_
        refine g_iload_n (pc' := 21) dX8_termsBar_20 rfl rfl ?_
        refine g_ialdN (pc' := 22) (v := _) dX8_termsBar_21 rfl rfl (by decide) (by omega) (rfl) ?_
        refine g_aload_n (pc' := 23) dX8_termsBar_22 rfl rfl ?_
        refine g_getS (pc' := 26) (k := 5) (b := (28, t)) dX8_termsBar_23 rfl rfl ck_9 (by decide) fl_X8_39 rfl hs rfl ?_
        refine g_iload_n (pc' := 27) dX8_termsBar_26 rfl rfl ?_
        refine g_ialdN (pc' := 28) (v := _) dX8_termsBar_27 rfl rfl (by decide) (by omega) (rfl) ?_
        refine g_aload_n (pc' := 29) dX8_termsBar_28 rfl rfl ?_
        refine g_iload_n (pc' := 30) dX8_termsBar_29 rfl rfl ?_
        refine g_invS (pc' := 33) (cx_termBars hok hc hw (f := f) (by omega) _ _) dX8_termsBar_30 rfl ml_X8_57 st_X8_termBars in_X8 co_X8_termBars pd_X8_termBars rfl (by omega) (by decide) ⟨by decide, by decide⟩ (Nat.le_of_ble_eq_true rfl) ?_
        rintro _ _ ⟨rfl, rfl⟩ -
        refine g_ifB_eq (tgt := 38) (pc' := 36) dX8_termsBar_33 rfl (by decide) (fun c33 => ?_) (fun c33 => ?_)
        ·
          refine g_iincN (k := 1) (pc' := 41) dX8_termsBar_38 rfl rfl (by decide) rfl ?_
          try simp only [List.set]
          refine g_goto (tgt := 2) dX8_termsBar_41 (by decide) ?_
          exact ih (i + 1) (by omega) (by omega) (lt_s hi c33)
        ·
          refine g_iconstN (n := 1) (pc' := 37) dX8_termsBar_36 rfl ?_
          refine g_zret dX8_termsBar_37 rfl (by rfl) (by decide) (by decide) ?_
          rw [bi_t (P := barred m t f) ((bar_iff hc hx ht h6 hcb hGb).mp ⟨i, by omega, c33⟩)] at hQ
          exact hQ
set_option maxRecDepth 4000 in
theorem cx_termsBar {E : En} (hok : EOK E) {h : Hp} {m : St} (hc : Cp m h) (hw : Wf m) {t f : Nat} (ht : t < nT m) (hf : f < nF m) (hx : Wx m) : Call E m_X8_termsBar 1 0 0 [vR (3, t), vR (4, f), vI (m 1 2)] h (fun r0 h' => r0 = some (vI (bi (barred m t f))) ∧ h = h') := by
  have hs := hc.s
  have hKb := hw.k.2
  have hTb := hw.t.2
  have hFb := hw.f.2
  have hRb := hw.r.2
  have hGb := hw.g.2
  have hAb := hw.a.2
  have hTlb := hw.tl.2
  have hNwb := hw.w.2
  obtain ⟨c, h6, hcb, -⟩ := hc.c7 t ht
  refine Call.enter hok (by decide) (Nat.le_of_ble_eq_true rfl) ?_
  show G E m_X8_termsBar 1 0 0 _ h 0 [some (vR (3, t)), some (vR (4, f)), some (vI (m 1 2)), none] [] h 0 0
  refine g_iconstN (n := 0) (pc' := 1) dX8_termsBar_0 rfl ?_
  refine g_istore_n (pc' := 2) dX8_termsBar_1 rfl (by decide) rfl ?_
  try simp only [List.set]
  exact lx_termsBar hok hc hw ht hf hx h6 hcb (Nat.le_refl _) ⟨rfl, rfl⟩ _ 0 (Nat.zero_le _) rfl (fun i q => absurd q (Nat.not_lt_zero i))
set_option maxRecDepth 4000 in
theorem lx_isTooOldForAll {E : En} (hok : EOK E) {h h0 : Hp} {m : St} (hc : Cp m h) (hw : Wf m) {k : Nat} (hk : k < nK m) {d : Nat} (hd : 3 ≤ d) {Q : Option V → Hp → Prop} (hQ : Q (some (vI (bi (0 < nF m ∧ ∀ f, f < nF m → m 126 f < m 108 k)))) h) : ∀ n f : Nat, f ≤ nF m → nF m - f = n → (∀ i, i < f → m 126 i < m 108 k) → G E m_X11_isTooOldForAll d 0 0 Q h0 2 [some (vR TH), some (vR (2, k)), some (vI (nI f))] [] (h) 0 0 := by
  have hs := hc.s
  have hKb := hw.k.2
  have hTb := hw.t.2
  have hFb := hw.f.2
  have hRb := hw.r.2
  have hGb := hw.g.2
  have hAb := hw.a.2
  have hTlb := hw.tl.2
  have hNwb := hw.w.2
  intro n
  induction n with
  | zero =>
    intro f h1 h2 hi
    refine g_iload_n (pc' := 3) dX11_isTooOldForAll_2 rfl rfl ?_
    refine g_aload_n (pc' := 4) dX11_isTooOldForAll_3 rfl rfl ?_
    refine g_getS (pc' := 7) (k := 12) (b := (13, 2)) dX11_isTooOldForAll_4 rfl rfl ck_12 (by decide) fl_X11_38 rfl hs rfl ?_
    refine g_invV (pc' := 10) (ls_size hok hc.c8.1) dX11_isTooOldForAll_7 rfl rfl ck_0 rfl ml_X11_103 im_Jx4a65c_size_8abf5 sl_Jx4a65c_size_8abf5 in_Jx4a65c co_Jx4a65c_size_8abf5 pd_Jx4a65c_size_8abf5 rfl (by omega) (by decide) ⟨by decide, by decide⟩ (Nat.le_of_ble_eq_true rfl) ?_
    rintro _ _ ⟨rfl, rfl⟩ -
    refine g_icmp_geN (tgt := 42) (pc' := 13) dX11_isTooOldForAll_10 rfl (by decide) (by omega) (by omega) (fun c10 => ?_) (fun c10 => ?_)
    ·
      refine g_aload_n (pc' := 43) dX11_isTooOldForAll_42 rfl rfl ?_
      refine g_getS (pc' := 46) (k := 12) (b := (13, 2)) dX11_isTooOldForAll_43 rfl rfl ck_12 (by decide) fl_X11_38 rfl hs rfl ?_
      refine g_invV (pc' := 49) (ls_size hok hc.c8.1) dX11_isTooOldForAll_46 rfl rfl ck_0 rfl ml_X11_103 im_Jx4a65c_size_8abf5 sl_Jx4a65c_size_8abf5 in_Jx4a65c co_Jx4a65c_size_8abf5 pd_Jx4a65c_size_8abf5 rfl (by omega) (by decide) ⟨by decide, by decide⟩ (Nat.le_of_ble_eq_true rfl) ?_
      rintro _ _ ⟨rfl, rfl⟩ -
      refine g_if_leN (tgt := 56) (pc' := 52) dX11_isTooOldForAll_49 rfl (by decide) (by omega) (fun c49 => ?_) (fun c49 => ?_)
      ·
        refine g_iconstN (n := 0) (pc' := 57) dX11_isTooOldForAll_56 rfl ?_
        refine g_zret dX11_isTooOldForAll_57 rfl (by rfl) (by decide) (by decide) ?_
        rw [bi_f (P := 0 < nF m ∧ ∀ f, f < nF m → m 126 f < m 108 k) (fun z => by omega)] at hQ
        exact hQ
      ·
        refine g_iconstN (n := 1) (pc' := 53) dX11_isTooOldForAll_52 rfl ?_
        refine g_goto (tgt := 57) dX11_isTooOldForAll_53 (by decide) ?_
        refine g_zret dX11_isTooOldForAll_57 rfl (by rfl) (by decide) (by decide) ?_
        rw [bi_t (P := 0 < nF m ∧ ∀ f, f < nF m → m 126 f < m 108 k) ⟨by omega, fun i q => hi i (by omega)⟩] at hQ
        exact hQ
    · exact absurd c10 (by omega)
  | succ n ih =>
    intro f h1 h2 hi
    refine g_iload_n (pc' := 3) dX11_isTooOldForAll_2 rfl rfl ?_
    refine g_aload_n (pc' := 4) dX11_isTooOldForAll_3 rfl rfl ?_
    refine g_getS (pc' := 7) (k := 12) (b := (13, 2)) dX11_isTooOldForAll_4 rfl rfl ck_12 (by decide) fl_X11_38 rfl hs rfl ?_
    refine g_invV (pc' := 10) (ls_size hok hc.c8.1) dX11_isTooOldForAll_7 rfl rfl ck_0 rfl ml_X11_103 im_Jx4a65c_size_8abf5 sl_Jx4a65c_size_8abf5 in_Jx4a65c co_Jx4a65c_size_8abf5 pd_Jx4a65c_size_8abf5 rfl (by omega) (by decide) ⟨by decide, by decide⟩ (Nat.le_of_ble_eq_true rfl) ?_
    rintro _ _ ⟨rfl, rfl⟩ -
    refine g_icmp_geN (tgt := 42) (pc' := 13) dX11_isTooOldForAll_10 rfl (by decide) (by omega) (by omega) (fun c10 => ?_) (fun c10 => ?_)
    · exact absurd c10 (by omega)
    ·
      refine g_aload_n (pc' := 14) dX11_isTooOldForAll_13 rfl rfl ?_
      refine g_getIv (v := m 108 (k)) (pc' := 17) (k := 1) dX11_isTooOldForAll_14 rfl rfl ck_3 (by decide) fl_X11_465 rfl (hc.k1 (k := k) (by omega)) ?_
      refine g_aload_n (pc' := 18) dX11_isTooOldForAll_17 rfl rfl ?_
      refine g_getS (pc' := 21) (k := 12) (b := (13, 2)) dX11_isTooOldForAll_18 rfl rfl ck_12 (by decide) fl_X11_38 rfl hs rfl ?_
      refine g_iload_n (pc' := 22) dX11_isTooOldForAll_21 rfl rfl ?_
      refine g_invV (pc' := 25) (ls_get hok hc.c8.1 (j := f) (by omega) (by omega)) dX11_isTooOldForAll_22 rfl rfl ck_0 rfl ml_X11_324 im_Jx4a65c_get_915e3 sl_Jx4a65c_get_915e3 in_Jx4a65c co_Jx4a65c_get_915e3 pd_Jx4a65c_get_915e3 rfl (by omega) (by decide) ⟨by decide, by decide⟩ (Nat.le_of_ble_eq_true rfl) ?_
      rintro _ _ ⟨rfl, rfl⟩ -
      refine g_cast (pc' := 28) dX11_isTooOldForAll_25 rfl rfl ck_2 cl_X11_139 ?_
      refine g_getIv (v := m 126 (f)) (pc' := 31) (k := 1) dX11_isTooOldForAll_28 rfl rfl ck_2 (by decide) fl_X11_471 rfl (hc.f1 (f := f) (by omega)) ?_
      refine g_icmp_gt (tgt := 36) (pc' := 34) dX11_isTooOldForAll_31 rfl (by decide) (fun c31 => ?_) (fun c31 => ?_)
      ·
        refine g_iincN (k := 1) (pc' := 39) dX11_isTooOldForAll_36 rfl rfl (by decide) rfl ?_
        try simp only [List.set]
        refine g_goto (tgt := 2) dX11_isTooOldForAll_39 (by decide) ?_
        exact ih (f + 1) (by omega) (by omega) (lt_s hi (c31))
      ·
        refine g_iconstN (n := 0) (pc' := 35) dX11_isTooOldForAll_34 rfl ?_
        refine g_zret dX11_isTooOldForAll_35 rfl (by rfl) (by decide) (by decide) ?_
        rw [bi_f (P := 0 < nF m ∧ ∀ f, f < nF m → m 126 f < m 108 k) (fun z => c31 (z.2 f (by omega)))] at hQ
        exact hQ
set_option maxRecDepth 4000 in
theorem cx_isTooOldForAll {E : En} (hok : EOK E) {h : Hp} {m : St} (hc : Cp m h) (hw : Wf m) {k : Nat} (hk : k < nK m) : Call E m_X11_isTooOldForAll 3 0 0 [vR TH, vR (2, k)] h (fun r0 h' => r0 = some (vI (bi (0 < nF m ∧ ∀ f, f < nF m → m 126 f < m 108 k))) ∧ h = h') := by
  have hs := hc.s
  have hKb := hw.k.2
  have hTb := hw.t.2
  have hFb := hw.f.2
  have hRb := hw.r.2
  have hGb := hw.g.2
  have hAb := hw.a.2
  have hTlb := hw.tl.2
  have hNwb := hw.w.2
  refine Call.enter hok (by decide) (Nat.le_of_ble_eq_true rfl) ?_
  show G E m_X11_isTooOldForAll 3 0 0 _ h 0 [some (vR TH), some (vR (2, k)), none] [] h 0 0
  refine g_iconstN (n := 0) (pc' := 1) dX11_isTooOldForAll_0 rfl ?_
  refine g_istore_n (pc' := 2) dX11_isTooOldForAll_1 rfl (by decide) rfl ?_
  try simp only [List.set]
  exact lx_isTooOldForAll hok hc hw hk (Nat.le_refl _) ⟨rfl, rfl⟩ _ 0 (Nat.zero_le _) rfl (fun i q => absurd q (Nat.not_lt_zero i))
set_option maxRecDepth 4000 in
theorem lx_isBarredForAll {E : En} (hok : EOK E) {h h0 : Hp} {m : St} (hc : Cp m h) (hw : Wf m) {t : Nat} (ht : t < nT m) (hx : Wx m) {d : Nat} (hd : 3 ≤ d) {Q : Option V → Hp → Prop} (hQ : Q (some (vI (bi (0 < nF m ∧ ∀ f, f < nF m → barred m t f)))) h) : ∀ n f : Nat, f ≤ nF m → nF m - f = n → (∀ i, i < f → barred m t i) → G E m_X11_isBarredForAll d 0 0 Q h0 2 [some (vR TH), some (vR (3, t)), some (vI (nI f))] [] (h) 0 0 := by
  have hs := hc.s
  have hKb := hw.k.2
  have hTb := hw.t.2
  have hFb := hw.f.2
  have hRb := hw.r.2
  have hGb := hw.g.2
  have hAb := hw.a.2
  have hTlb := hw.tl.2
  have hNwb := hw.w.2
  intro n
  induction n with
  | zero =>
    intro f h1 h2 hi
    refine g_iload_n (pc' := 3) dX11_isBarredForAll_2 rfl rfl ?_
    refine g_aload_n (pc' := 4) dX11_isBarredForAll_3 rfl rfl ?_
    refine g_getS (pc' := 7) (k := 12) (b := (13, 2)) dX11_isBarredForAll_4 rfl rfl ck_12 (by decide) fl_X11_38 rfl hs rfl ?_
    refine g_invV (pc' := 10) (ls_size hok hc.c8.1) dX11_isBarredForAll_7 rfl rfl ck_0 rfl ml_X11_103 im_Jx4a65c_size_8abf5 sl_Jx4a65c_size_8abf5 in_Jx4a65c co_Jx4a65c_size_8abf5 pd_Jx4a65c_size_8abf5 rfl (by omega) (by decide) ⟨by decide, by decide⟩ (Nat.le_of_ble_eq_true rfl) ?_
    rintro _ _ ⟨rfl, rfl⟩ -
    refine g_icmp_geN (tgt := 43) (pc' := 13) dX11_isBarredForAll_10 rfl (by decide) (by omega) (by omega) (fun c10 => ?_) (fun c10 => ?_)
    ·
      refine g_aload_n (pc' := 44) dX11_isBarredForAll_43 rfl rfl ?_
      refine g_getS (pc' := 47) (k := 12) (b := (13, 2)) dX11_isBarredForAll_44 rfl rfl ck_12 (by decide) fl_X11_38 rfl hs rfl ?_
      refine g_invV (pc' := 50) (ls_size hok hc.c8.1) dX11_isBarredForAll_47 rfl rfl ck_0 rfl ml_X11_103 im_Jx4a65c_size_8abf5 sl_Jx4a65c_size_8abf5 in_Jx4a65c co_Jx4a65c_size_8abf5 pd_Jx4a65c_size_8abf5 rfl (by omega) (by decide) ⟨by decide, by decide⟩ (Nat.le_of_ble_eq_true rfl) ?_
      rintro _ _ ⟨rfl, rfl⟩ -
      refine g_if_leN (tgt := 57) (pc' := 53) dX11_isBarredForAll_50 rfl (by decide) (by omega) (fun c50 => ?_) (fun c50 => ?_)
      ·
        refine g_iconstN (n := 0) (pc' := 58) dX11_isBarredForAll_57 rfl ?_
        refine g_zret dX11_isBarredForAll_58 rfl (by rfl) (by decide) (by decide) ?_
        rw [bi_f (P := 0 < nF m ∧ ∀ f, f < nF m → barred m t f) (fun z => by omega)] at hQ
        exact hQ
      ·
        refine g_iconstN (n := 1) (pc' := 54) dX11_isBarredForAll_53 rfl ?_
        refine g_goto (tgt := 58) dX11_isBarredForAll_54 (by decide) ?_
        refine g_zret dX11_isBarredForAll_58 rfl (by rfl) (by decide) (by decide) ?_
        rw [bi_t (P := 0 < nF m ∧ ∀ f, f < nF m → barred m t f) ⟨by omega, fun i q => hi i (by omega)⟩] at hQ
        exact hQ
    · exact absurd c10 (by omega)
  | succ n ih =>
    intro f h1 h2 hi
    refine g_iload_n (pc' := 3) dX11_isBarredForAll_2 rfl rfl ?_
    refine g_aload_n (pc' := 4) dX11_isBarredForAll_3 rfl rfl ?_
    refine g_getS (pc' := 7) (k := 12) (b := (13, 2)) dX11_isBarredForAll_4 rfl rfl ck_12 (by decide) fl_X11_38 rfl hs rfl ?_
    refine g_invV (pc' := 10) (ls_size hok hc.c8.1) dX11_isBarredForAll_7 rfl rfl ck_0 rfl ml_X11_103 im_Jx4a65c_size_8abf5 sl_Jx4a65c_size_8abf5 in_Jx4a65c co_Jx4a65c_size_8abf5 pd_Jx4a65c_size_8abf5 rfl (by omega) (by decide) ⟨by decide, by decide⟩ (Nat.le_of_ble_eq_true rfl) ?_
    rintro _ _ ⟨rfl, rfl⟩ -
    refine g_icmp_geN (tgt := 43) (pc' := 13) dX11_isBarredForAll_10 rfl (by decide) (by omega) (by omega) (fun c10 => ?_) (fun c10 => ?_)
    · exact absurd c10 (by omega)
    ·
      refine g_aload_n (pc' := 14) dX11_isBarredForAll_13 rfl rfl ?_
      refine g_aload_n (pc' := 15) dX11_isBarredForAll_14 rfl rfl ?_
      refine g_getS (pc' := 18) (k := 12) (b := (13, 2)) dX11_isBarredForAll_15 rfl rfl ck_12 (by decide) fl_X11_38 rfl hs rfl ?_
      refine g_iload_n (pc' := 19) dX11_isBarredForAll_18 rfl rfl ?_
      refine g_invV (pc' := 22) (ls_get hok hc.c8.1 (j := f) (by omega) (by omega)) dX11_isBarredForAll_19 rfl rfl ck_0 rfl ml_X11_324 im_Jx4a65c_get_915e3 sl_Jx4a65c_get_915e3 in_Jx4a65c co_Jx4a65c_get_915e3 pd_Jx4a65c_get_915e3 rfl (by omega) (by decide) ⟨by decide, by decide⟩ (Nat.le_of_ble_eq_true rfl) ?_
      rintro _ _ ⟨rfl, rfl⟩ -
      refine g_cast (pc' := 25) dX11_isBarredForAll_22 rfl rfl ck_2 cl_X11_139 ?_
      refine g_aload_n (pc' := 26) dX11_isBarredForAll_25 rfl rfl ?_
      refine g_getIv (v := m 1 2) (pc' := 29) (k := 0) dX11_isBarredForAll_26 rfl rfl ck_12 (by decide) fl_X11_95 rfl (hc.c1.1) ?_
      refine g_invV (pc' := 32) (cx_termsBar hok hc hw (t := t) (f := f) (by omega) (by omega) hx) dX11_isBarredForAll_29 rfl rfl ck_9 rfl ml_X11_487 im_X8_termsBar sl_X8_termsBar in_X8 co_X8_termsBar pd_X8_termsBar rfl (by omega) (by decide) ⟨by decide, by decide⟩ (Nat.le_of_ble_eq_true rfl) ?_
      rintro _ _ ⟨rfl, rfl⟩ -
      refine g_ifB_ne (tgt := 37) (pc' := 35) dX11_isBarredForAll_32 rfl (by decide) (fun c32 => ?_) (fun c32 => ?_)
      ·
        refine g_iincN (k := 1) (pc' := 40) dX11_isBarredForAll_37 rfl rfl (by decide) rfl ?_
        try simp only [List.set]
        refine g_goto (tgt := 2) dX11_isBarredForAll_40 (by decide) ?_
        exact ih (f + 1) (by omega) (by omega) (lt_s hi (c32))
      ·
        refine g_iconstN (n := 0) (pc' := 36) dX11_isBarredForAll_35 rfl ?_
        refine g_zret dX11_isBarredForAll_36 rfl (by rfl) (by decide) (by decide) ?_
        rw [bi_f (P := 0 < nF m ∧ ∀ f, f < nF m → barred m t f) (fun z => c32 (z.2 f (by omega)))] at hQ
        exact hQ
set_option maxRecDepth 4000 in
theorem cx_isBarredForAll {E : En} (hok : EOK E) {h : Hp} {m : St} (hc : Cp m h) (hw : Wf m) {t : Nat} (ht : t < nT m) (hx : Wx m) : Call E m_X11_isBarredForAll 3 0 0 [vR TH, vR (3, t)] h (fun r0 h' => r0 = some (vI (bi (0 < nF m ∧ ∀ f, f < nF m → barred m t f))) ∧ h = h') := by
  have hs := hc.s
  have hKb := hw.k.2
  have hTb := hw.t.2
  have hFb := hw.f.2
  have hRb := hw.r.2
  have hGb := hw.g.2
  have hAb := hw.a.2
  have hTlb := hw.tl.2
  have hNwb := hw.w.2
  refine Call.enter hok (by decide) (Nat.le_of_ble_eq_true rfl) ?_
  show G E m_X11_isBarredForAll 3 0 0 _ h 0 [some (vR TH), some (vR (3, t)), none] [] h 0 0
  refine g_iconstN (n := 0) (pc' := 1) dX11_isBarredForAll_0 rfl ?_
  refine g_istore_n (pc' := 2) dX11_isBarredForAll_1 rfl (by decide) rfl ?_
  try simp only [List.set]
  exact lx_isBarredForAll hok hc hw ht hx (Nat.le_refl _) ⟨rfl, rfl⟩ _ 0 (Nat.zero_le _) rfl (fun i q => absurd q (Nat.not_lt_zero i))
set_option maxRecDepth 4000 in
theorem cx_reasonUnwanted {E : En} (hok : EOK E) {h : Hp} {m : St} (hc : Cp m h) (hw : Wf m) {t : Nat} (ht : t < nT m) (hx : Wx m) : Call E m_X11_reasonUnwanted 4 0 0 [vR TH, vR (3, t)] h (fun r0 h' => r0 = some (vI (nI (whyR m t))) ∧ h = h') := by
  have hs := hc.s
  have hKb := hw.k.2
  have hTb := hw.t.2
  have hFb := hw.f.2
  have hRb := hw.r.2
  have hGb := hw.g.2
  have hAb := hw.a.2
  have hTlb := hw.tl.2
  have hNwb := hw.w.2
  have hkd := (hw.kd ht).2
  refine Call.enter hok (by decide) (Nat.le_of_ble_eq_true rfl) ?_
  show G E m_X11_reasonUnwanted 4 0 0 _ h 0 [some (vR TH), some (vR (3, t))] [] h 0 0
  refine g_aload_n (pc' := 1) dX11_reasonUnwanted_0 rfl rfl ?_
  refine g_aload_n (pc' := 2) dX11_reasonUnwanted_1 rfl rfl ?_
  refine g_invV (pc' := 5) (cx_isRecalled hok hc hw (t := t) (by omega)) dX11_reasonUnwanted_2 rfl rfl ck_12 rfl ml_X11_280 im_X11_isRecalled sl_X11_isRecalled in_X11 co_X11_isRecalled pd_X11_isRecalled rfl (by omega) (by decide) ⟨by decide, by decide⟩ (Nat.le_of_ble_eq_true rfl) ?_
  rintro _ _ ⟨rfl, rfl⟩ -
  refine g_ifB_eq (tgt := 10) (pc' := 8) dX11_reasonUnwanted_5 rfl (by decide) (fun c5 => ?_) (fun c5 => ?_)
  ·
    refine g_aload_n (pc' := 11) dX11_reasonUnwanted_10 rfl rfl ?_
    refine g_getIv (v := m 124 (t)) (pc' := 14) (k := 14) dX11_reasonUnwanted_11 rfl rfl ck_9 (by decide) fl_X11_260 rfl (hc.t14 (t := t) (by omega)) ?_
    refine g_if_eq (tgt := 19) (pc' := 17) dX11_reasonUnwanted_14 rfl (by decide) (fun c14 => ?_) (fun c14 => ?_)
    ·
      refine g_aload_n (pc' := 20) dX11_reasonUnwanted_19 rfl rfl ?_
      refine g_invV (pc' := 23) (cx_lacking hok hc hw (t := t) (by omega)) dX11_reasonUnwanted_20 rfl rfl ck_9 rfl ml_X11_265 im_X8_lacking sl_X8_lacking in_X8 co_X8_lacking pd_X8_lacking rfl (by omega) (by decide) ⟨by decide, by decide⟩ (Nat.le_of_ble_eq_true rfl) ?_
      rintro _ _ ⟨rfl, rfl⟩ -
      refine g_if_le (tgt := 28) (pc' := 26) dX11_reasonUnwanted_23 rfl (by decide) (fun c23 => ?_) (fun c23 => ?_)
      ·
        refine g_aload_n (pc' := 29) dX11_reasonUnwanted_28 rfl rfl ?_
        refine g_invV (pc' := 32) (cx_isWorn hok hc hw (t := t) (by omega)) dX11_reasonUnwanted_29 rfl rfl ck_9 rfl ml_X11_483 im_X8_isWorn sl_X8_isWorn in_X8 co_X8_isWorn pd_X8_isWorn rfl (by omega) (by decide) ⟨by decide, by decide⟩ (Nat.le_of_ble_eq_true rfl) ?_
        rintro _ _ ⟨rfl, rfl⟩ -
        refine g_ifB_eq (tgt := 37) (pc' := 35) dX11_reasonUnwanted_32 rfl (by decide) (fun c32 => ?_) (fun c32 => ?_)
        ·
          refine g_aload_n (pc' := 38) dX11_reasonUnwanted_37 rfl rfl ?_
          refine g_getR (pc' := 41) (k := 1) (r := some (2, kd m t)) dX11_reasonUnwanted_38 rfl rfl ck_9 (by decide) fl_X11_203 rfl ((hc.c6.2.1 _ (by omega)).1) ?_
          refine g_getIv (v := m 110 (kd m t)) (pc' := 44) (k := 3) dX11_reasonUnwanted_41 rfl rfl ck_3 (by decide) fl_X11_468 rfl (hc.k3 (k := kd m t) (by omega)) ?_
          refine g_bipushN (n := 7) (pc' := 46) dX11_reasonUnwanted_44 rfl (by decide) ?_
          refine g_icmp_lt (tgt := 51) (pc' := 49) dX11_reasonUnwanted_46 rfl (by decide) (fun c46 => ?_) (fun c46 => ?_)
          ·
            refine g_aload_n (pc' := 52) dX11_reasonUnwanted_51 rfl rfl ?_
            refine g_aload_n (pc' := 53) dX11_reasonUnwanted_52 rfl rfl ?_
            refine g_getR (pc' := 56) (k := 1) (r := some (2, kd m t)) dX11_reasonUnwanted_53 rfl rfl ck_9 (by decide) fl_X11_203 rfl ((hc.c6.2.1 _ (by omega)).1) ?_
            refine g_invV (pc' := 59) (cx_isTooOldForAll hok hc hw (k := kd m t) (by omega)) dX11_reasonUnwanted_56 rfl rfl ck_12 rfl ml_X11_518 im_X11_isTooOldForAll sl_X11_isTooOldForAll in_X11 co_X11_isTooOldForAll pd_X11_isTooOldForAll rfl (by omega) (by decide) ⟨by decide, by decide⟩ (Nat.le_of_ble_eq_true rfl) ?_
            rintro _ _ ⟨rfl, rfl⟩ -
            refine g_ifB_eq (tgt := 65) (pc' := 62) dX11_reasonUnwanted_59 rfl (by decide) (fun c59 => ?_) (fun c59 => ?_)
            ·
              refine g_aload_n (pc' := 66) dX11_reasonUnwanted_65 rfl rfl ?_
              refine g_aload_n (pc' := 67) dX11_reasonUnwanted_66 rfl rfl ?_
              refine g_invV (pc' := 70) (cx_isBarredForAll hok hc hw (t := t) (by omega) hx) dX11_reasonUnwanted_67 rfl rfl ck_12 rfl ml_X11_521 im_X11_isBarredForAll sl_X11_isBarredForAll in_X11 co_X11_isBarredForAll pd_X11_isBarredForAll rfl (by omega) (by decide) ⟨by decide, by decide⟩ (Nat.le_of_ble_eq_true rfl) ?_
              rintro _ _ ⟨rfl, rfl⟩ -
              refine g_ifB_eq (tgt := 78) (pc' := 73) dX11_reasonUnwanted_70 rfl (by decide) (fun c70 => ?_) (fun c70 => ?_)
              ·
                refine g_bipushN (n := 8) (pc' := 80) dX11_reasonUnwanted_78 rfl (by decide) ?_
                refine g_iret dX11_reasonUnwanted_80 rfl (by decide) (by decide) ?_
                have e : whyR m t = 8 := (cif_f c5).trans ((cif_f (fun z => z c14)).trans ((cif_f (fun z => absurd c23 (Int32.not_le.mpr z))).trans ((cif_f c32).trans ((cif_f (fun z => absurd c46 (Int32.not_lt.mpr z))).trans ((cif_f c59).trans (cif_f c70))))))
                exact ⟨congrArg (fun z : Nat => some (vI (nI z))) e.symm, rfl⟩
              ·
                refine g_bipushN (n := 7) (pc' := 75) dX11_reasonUnwanted_73 rfl (by decide) ?_
                refine g_goto (tgt := 80) dX11_reasonUnwanted_75 (by decide) ?_
                refine g_iret dX11_reasonUnwanted_80 rfl (by decide) (by decide) ?_
                have e : whyR m t = 7 := (cif_f c5).trans ((cif_f (fun z => z c14)).trans ((cif_f (fun z => absurd c23 (Int32.not_le.mpr z))).trans ((cif_f c32).trans ((cif_f (fun z => absurd c46 (Int32.not_lt.mpr z))).trans ((cif_f c59).trans (cif_t c70))))))
                exact ⟨congrArg (fun z : Nat => some (vI (nI z))) e.symm, rfl⟩
            ·
              refine g_bipushN (n := 6) (pc' := 64) dX11_reasonUnwanted_62 rfl (by decide) ?_
              refine g_iret dX11_reasonUnwanted_64 rfl (by decide) (by decide) ?_
              have e : whyR m t = 6 := (cif_f c5).trans ((cif_f (fun z => z c14)).trans ((cif_f (fun z => absurd c23 (Int32.not_le.mpr z))).trans ((cif_f c32).trans ((cif_f (fun z => absurd c46 (Int32.not_lt.mpr z))).trans (cif_t c59)))))
              exact ⟨congrArg (fun z : Nat => some (vI (nI z))) e.symm, rfl⟩
          ·
            refine g_iconstN (n := 5) (pc' := 50) dX11_reasonUnwanted_49 rfl ?_
            refine g_iret dX11_reasonUnwanted_50 rfl (by decide) (by decide) ?_
            have e : whyR m t = 5 := (cif_f c5).trans ((cif_f (fun z => z c14)).trans ((cif_f (fun z => absurd c23 (Int32.not_le.mpr z))).trans ((cif_f c32).trans (cif_t (Int32.not_lt.mp c46)))))
            exact ⟨congrArg (fun z : Nat => some (vI (nI z))) e.symm, rfl⟩
        ·
          refine g_iconstN (n := 4) (pc' := 36) dX11_reasonUnwanted_35 rfl ?_
          refine g_iret dX11_reasonUnwanted_36 rfl (by decide) (by decide) ?_
          have e : whyR m t = 4 := (cif_f c5).trans ((cif_f (fun z => z c14)).trans ((cif_f (fun z => absurd c23 (Int32.not_le.mpr z))).trans (cif_t c32)))
          exact ⟨congrArg (fun z : Nat => some (vI (nI z))) e.symm, rfl⟩
      ·
        refine g_iconstN (n := 3) (pc' := 27) dX11_reasonUnwanted_26 rfl ?_
        refine g_iret dX11_reasonUnwanted_27 rfl (by decide) (by decide) ?_
        have e : whyR m t = 3 := (cif_f c5).trans ((cif_f (fun z => z c14)).trans (cif_t (Int32.not_le.mp c23)))
        exact ⟨congrArg (fun z : Nat => some (vI (nI z))) e.symm, rfl⟩
    ·
      refine g_iconstN (n := 2) (pc' := 18) dX11_reasonUnwanted_17 rfl ?_
      refine g_iret dX11_reasonUnwanted_18 rfl (by decide) (by decide) ?_
      have e : whyR m t = 2 := (cif_f c5).trans (cif_t c14)
      exact ⟨congrArg (fun z : Nat => some (vI (nI z))) e.symm, rfl⟩
  ·
    refine g_iconstN (n := 1) (pc' := 9) dX11_reasonUnwanted_8 rfl ?_
    refine g_iret dX11_reasonUnwanted_9 rfl (by decide) (by decide) ?_
    have e : whyR m t = 1 := cif_t c5
    exact ⟨congrArg (fun z : Nat => some (vI (nI z))) e.symm, rfl⟩
