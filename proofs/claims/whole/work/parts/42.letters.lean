/-- the class's scratch: the numbers of the reckoner, the searches -/
def sc (s : Nat) : Bool := Nat.beq s 7 || (Nat.ble 9 s && Nat.ble s 12) || (Nat.ble 42 s && Nat.ble s 60)
theorem mo_same {h h' : Hp} (e : ∀ b : Ad, kS b.1 ≠ 0 → h'.1 b = h.1 b) : mo h' = mo h := by
  funext s i
  rcases kS_c s with hm | hm | hm
  · rw [mo_0 hm, mo_0 hm]
  · have := kS_1 hm
    subst this
    cases hc : scr i with
    | true => rw [mo_1s hc, mo_1s hc]
    | false => rw [mo_1 hc, mo_1 hc, e (1, 0) (by decide)]
  · rw [mo_2 hm, mo_2 hm, e (s, 0) (by show kS s ≠ 0; rw [hm]; decide)]
theorem sc_kS {s : Nat} (h : kS s ≠ 0) : sc s = false := by
  unfold kS at h
  unfold sc
  by_cases q : s = 1
  · subst q; rfl
  · have a : Nat.beq s 1 = false := by
      cases z : Nat.beq s 1 with
      | false => rfl
      | true => exact absurd (Nat.eq_of_beq_eq_true z) q
    rw [a] at h
    by_cases b : 100 ≤ s
    · have b1 : Nat.beq s 7 = false := by
        cases z : Nat.beq s 7 with
        | false => rfl
        | true => have := Nat.eq_of_beq_eq_true z; omega
      have b2 : Nat.ble s 12 = false := by
        cases z : Nat.ble s 12 with
        | false => rfl
        | true => have := Nat.le_of_ble_eq_true z; omega
      have b3 : Nat.ble s 60 = false := by
        cases z : Nat.ble s 60 with
        | false => rfl
        | true => have := Nat.le_of_ble_eq_true z; omega
      rw [b1, b2, b3]
      simp
    · have b1 : Nat.ble 100 s = false := by
        cases z : Nat.ble 100 s with
        | false => rfl
        | true => exact absurd (Nat.le_of_ble_eq_true z) b
      rw [b1] at h
      exact absurd rfl h
theorem Cp.same {m : St} {h h' : Hp} (c : Cp m h) (e2 : h'.2 = h.2) (e1 : ∀ b : Ad, sc b.1 = false → h'.1 b = h.1 b) (e13 : C13 h') : Cp m h' := by
  have f : ∀ s, sc s = false → ∀ i, h'.1 (s, i) = h.1 (s, i) := fun s q i => e1 (s, i) q
  refine ⟨by rw [e2]; exact c.s, by unfold Al; rw [e2]; exact c.e, ?_, ?_, ?_, ?_, ?_, ?_, ?_, ?_, ?_, ?_, ?_, ?_, e13⟩
  · have q := c.c1
    unfold C1 at *
    rw [f 0 rfl]
    exact q
  · have q := c.c2
    unfold C2 at *
    rw [f 20 rfl]
    exact q
  · have q := c.c3
    unfold C3 at *
    rw [f 21 rfl]
    exact q
  · have q := c.c4
    unfold C4 at *
    rw [f 22 rfl]
    exact q
  · have q := c.c5
    unfold C5 Ls at *
    simp only [e2, f 13 rfl, f 2 rfl, f 24 rfl, f 25 rfl]
    exact q
  · have q := c.c6
    unfold C6 Ls at *
    simp only [e2, f 13 rfl, f 3 rfl, f 26 rfl]
    exact q
  · have q := c.c7
    unfold C7 at *
    simp only [f 3 rfl, f 27 rfl, f 28 rfl]
    exact q
  · have q := c.c8
    unfold C8 Ls at *
    simp only [e2, f 13 rfl, f 4 rfl, f 29 rfl]
    exact q
  · have q := c.c9
    unfold C9 Ls at *
    simp only [e2, f 13 rfl, f 5 rfl, f 30 rfl]
    exact q
  · have q := c.c10
    unfold C10 at *
    simp only [f 8 rfl, f 31 rfl, f 32 rfl, f 33 rfl, f 34 rfl]
    exact q
  · have q := c.c11
    unfold C11 at *
    simp only [f 4 rfl, f 23 rfl]
    exact q
  · have q := c.c12
    unfold C12 CR CT at *
    simp only [e2, f 6 rfl, f 35 rfl, f 36 rfl, f 37 rfl, f 38 rfl, f 39 rfl, f 40 rfl]
    exact q
/-- only the letters changed -/
def Lw (h h' : Hp) : Prop := h'.2 = h.2 ∧ ∀ b, b ≠ (42, 0) → h'.1 b = h.1 b
/-- letter u was set to x -/
def Lt1 (u : Nat) (x : Int32) (h h' : Hp) : Prop := Lw h h' ∧ h'.1 (42, 0) u = x ∧ ∀ i, i ≠ u → h'.1 (42, 0) i = h.1 (42, 0) i
theorem Lw.rf (h : Hp) : Lw h h := ⟨rfl, fun _ _ => rfl⟩
theorem Lw.tr {a b c : Hp} (x : Lw a b) (y : Lw b c) : Lw a c := ⟨y.1.trans x.1, fun q z => (y.2 q z).trans (x.2 q z)⟩
theorem Cp.lw {m : St} {h h' : Hp} (c : Cp m h) (k : Lw h h') : Cp m h' := by
  have f : ∀ b : Ad, b.1 ≠ 42 → h'.1 b = h.1 b := fun b q => k.2 b (ad_ne q)
  refine c.same k.1 (fun b q => f b (fun z => by rw [z] at q; cases q)) ?_
  have q := c.c13
  unfold C13 at *
  rw [k.1, f (46, 0) (show (46 : Nat) ≠ 42 by decide), f (47, 0) (show (47 : Nat) ≠ 42 by decide), f (48, 0) (show (48 : Nat) ≠ 42 by decide), f (58, 0) (show (58 : Nat) ≠ 42 by decide)]
  exact q
theorem Cp.rk {m : St} {h h' : Hp} {a : Nat} (c : Cp m h) (k : Rk a h h') : Cp m h' := by
  have f : ∀ b : Ad, b.1 ≠ 7 → b.1 ≠ 43 → h'.1 b = h.1 b := fun b q z => k.2.1 b (ad_ne q) (ad_ne z)
  refine c.same k.1 (fun b q => f b (fun z => by rw [z] at q; cases q) (fun z => by rw [z] at q; cases q)) ?_
  have q := c.c13
  unfold C13 at *
  rw [k.1, f (46, 0) (show (46 : Nat) ≠ 7 by decide) (show (46 : Nat) ≠ 43 by decide), f (47, 0) (show (47 : Nat) ≠ 7 by decide) (show (47 : Nat) ≠ 43 by decide), f (48, 0) (show (48 : Nat) ≠ 7 by decide) (show (48 : Nat) ≠ 43 by decide), f (58, 0) (show (58 : Nat) ≠ 7 by decide) (show (58 : Nat) ≠ 43 by decide)]
  exact q
theorem Lw.mo {h h' : Hp} (k : Lw h h') : mo h' = mo h := mo_same (fun b q => k.2 b (fun z => by rw [z] at q; exact q rfl))
theorem Rk.mo {h h' : Hp} {a : Nat} (k : Rk a h h') : mo h' = mo h := mo_same (fun b q => k.2.1 b (fun z => by rw [z] at q; exact q rfl) (fun z => by rw [z] at q; exact q rfl))
theorem hsT_eq {m : St} (hx : Wx m) {f : Nat} (hf : f < nF m) (hF : nF m ≤ 10) : cnt (fun t => m 119 t = nI f) (nT m) = hsT m (nI f) := by
  unfold hsT
  refine cnt_congr fun t ht => ⟨fun q => ⟨Classical.byContradiction fun z => ?_, q⟩, fun q => q.2⟩
  have := (hx.ho t ht).1 z
  rw [q] at this
  exact nI_ne_neg (by omega) this
set_option maxRecDepth 4000 in
theorem cx_setLetter {E : En} (hok : EOK E) {h : Hp} (hs : Shp h.2) {u : Nat} (hu : 97 ≤ u ∧ u ≤ 122) (x : Int32) : Call E m_X5_setLetter 0 0 0 [vR (7, 0), vI (nI u), vI x] h (fun r h' => r = none ∧ Lt1 (u - 97) x h h') := by
  refine Call.enter hok (by decide) (Nat.le_of_ble_eq_true rfl) ?_
  show G E m_X5_setLetter 0 0 0 _ h 0 [some (vR (7, 0)), some (vI (nI u)), some (vI x)] [] h 0 0
  refine g_iload_n (pc' := 1) dX5_setLetter_0 rfl rfl ?_
  refine g_bipushN (n := 97) (pc' := 3) dX5_setLetter_1 rfl (by decide) ?_
  refine g_icmp_ltN (tgt := 22) (pc' := 6) dX5_setLetter_3 rfl (by decide) (by omega) (by omega) (fun c3 => ?_) (fun c3 => ?_)
  · exact absurd c3 (by omega)
  ·
    refine g_iload_n (pc' := 7) dX5_setLetter_6 rfl rfl ?_
    refine g_bipushN (n := 122) (pc' := 9) dX5_setLetter_7 rfl (by decide) ?_
    refine g_icmp_gtN (tgt := 22) (pc' := 12) dX5_setLetter_9 rfl (by decide) (by omega) (by omega) (fun c9 => ?_) (fun c9 => ?_)
    · exact absurd c9 (by omega)
    ·
      refine g_aload_n (pc' := 13) dX5_setLetter_12 rfl rfl ?_
      refine g_getS (pc' := 16) (k := 0) (b := (42, 0)) dX5_setLetter_13 rfl rfl ck_6 (by decide) fl_X5_15 rfl hs rfl ?_
      refine g_iload_n (pc' := 17) dX5_setLetter_16 rfl rfl ?_
      refine g_bipushN (n := 97) (pc' := 19) dX5_setLetter_17 rfl (by decide) ?_
      refine g_isubN (pc' := 20) dX5_setLetter_19 rfl (by omega) ?_
      refine g_iload_n (pc' := 21) dX5_setLetter_20 rfl rfl ?_
      refine g_iastN (pc' := 22) dX5_setLetter_21 rfl rfl (by decide) (by omega) ?_
      refine g_vret dX5_setLetter_22 rfl (by decide) (by decide) ?_
      exact ⟨rfl, ⟨rfl, fun b q => wI_off _ _ _ _ b q⟩, wI_same _ _ _ _, fun i q => wI_f q⟩
set_option maxRecDepth 4000 in
theorem cx_daysWaited {E : En} (hok : EOK E) {h : Hp} {m : St} (hc : Cp m h) (hw : Wf m) {f k : Nat} (hf : f < nF m) (hk : k < 8) (x : Int32) : Call E m_X1_daysWaited 2 0 0 [vR (4, f), vI (nI k), vI x] h (fun r0 h' => r0 = some (vI (cif (m 186 (8 * f + k) = -1) 0 (x - m 186 (8 * f + k)))) ∧ h = h') := by
  have hs := hc.s
  have hKb := hw.k.2
  have hTb := hw.t.2
  have hFb := hw.f.2
  have hRb := hw.r.2
  have hGb := hw.g.2
  have hAb := hw.a.2
  have hTlb := hw.tl.2
  have hNwb := hw.w.2
  refine Call.enter hok (by decide) (Nat.le_of_ble_eq_true rfl) ?_
  show G E m_X1_daysWaited 2 0 0 _ h 0 [some (vR (4, f)), some (vI (nI k)), some (vI x)] [] h 0 0
  refine g_aload_n (pc' := 1) dX1_daysWaited_0 rfl rfl ?_
  refine g_iload_n (pc' := 2) dX1_daysWaited_1 rfl rfl ?_
  refine g_invV (pc' := 5) (cx_isWaiting hok hc (f := f) (k := k) (by omega) (by omega)) dX1_daysWaited_2 rfl rfl ck_2 rfl ml_X1_38 im_X1_isWaiting sl_X1_isWaiting in_X1 co_X1_isWaiting pd_X1_isWaiting rfl (by omega) (by decide) ⟨by decide, by decide⟩ (Nat.le_of_ble_eq_true rfl) ?_
  rintro _ _ ⟨rfl, rfl⟩ -
  refine g_ifB_eq (tgt := 19) (pc' := 8) dX1_daysWaited_5 rfl (by decide) (fun c5 => ?_) (fun c5 => ?_)
  ·
    refine g_iconstN (n := 0) (pc' := 20) dX1_daysWaited_19 rfl ?_
    refine g_iret dX1_daysWaited_20 rfl (by decide) (by decide) ?_
    exact ⟨congrArg (fun z : Int32 => some (vI z)) (cif_t (Classical.not_not.mp c5)).symm, rfl⟩
  ·
    refine g_iload_n (pc' := 9) dX1_daysWaited_8 rfl rfl ?_
    refine g_aload_n (pc' := 10) dX1_daysWaited_9 rfl rfl ?_
    refine g_getS (pc' := 13) (k := 4) (b := (29, f)) dX1_daysWaited_10 rfl rfl ck_2 (by decide) fl_X1_24 rfl hs rfl ?_
    refine g_iload_n (pc' := 14) dX1_daysWaited_13 rfl rfl ?_
    refine g_ialdN (pc' := 15) (v := m 186 (8 * f + k)) dX1_daysWaited_14 rfl rfl (by decide) (by omega) ((hc.c8.2.1 f hf).2 k hk) ?_
    refine g_isub (pc' := 16) dX1_daysWaited_15 rfl ?_
    refine g_goto (tgt := 20) dX1_daysWaited_16 (by decide) ?_
    refine g_iret dX1_daysWaited_20 rfl (by decide) (by decide) ?_
    exact ⟨congrArg (fun z : Int32 => some (vI z)) (cif_f c5).symm, rfl⟩
set_option maxRecDepth 4000 in
theorem lx_toysHeldBy {E : En} (hok : EOK E) {h h0 : Hp} {m : St} (hc : Cp m h) (hw : Wf m) {f : Nat} (hf : f < nF m) {d : Nat} (hd : 3 ≤ d) {Q : Option V → Hp → Prop} (hQ : Q (some (vI (nI (cnt (fun t => m 119 t = nI f) (nT m))))) h) : ∀ n t : Nat, t ≤ nT m → nT m - t = n → G E m_X11_toysHeldBy d 0 0 Q h0 4 [some (vR TH), some (vR (4, f)), some (vI (nI (cnt (fun t => m 119 t = nI f) t))), some (vI (nI t))] [] (h) 0 0 := by
  have hs := hc.s
  have hKb := hw.k.2
  have hTb := hw.t.2
  have hFb := hw.f.2
  have hRb := hw.r.2
  have hGb := hw.g.2
  have hAb := hw.a.2
  have hTlb := hw.tl.2
  have hNwb := hw.w.2
  intro n
  induction n with
  | zero =>
    intro t h1 h2
    refine g_iload_n (pc' := 5) dX11_toysHeldBy_4 rfl rfl ?_
    refine g_aload_n (pc' := 6) dX11_toysHeldBy_5 rfl rfl ?_
    refine g_getS (pc' := 9) (k := 11) (b := (13, 1)) dX11_toysHeldBy_6 rfl rfl ck_12 (by decide) fl_X11_35 rfl hs rfl ?_
    refine g_invV (pc' := 12) (ls_size hok hc.c6.1) dX11_toysHeldBy_9 rfl rfl ck_0 rfl ml_X11_103 im_Jx4a65c_size_8abf5 sl_Jx4a65c_size_8abf5 in_Jx4a65c co_Jx4a65c_size_8abf5 pd_Jx4a65c_size_8abf5 rfl (by omega) (by decide) ⟨by decide, by decide⟩ (Nat.le_of_ble_eq_true rfl) ?_
    rintro _ _ ⟨rfl, rfl⟩ -
    refine g_icmp_geN (tgt := 45) (pc' := 15) dX11_toysHeldBy_12 rfl (by decide) (by omega) (by omega) (fun c12 => ?_) (fun c12 => ?_)
    ·
      refine g_iload_n (pc' := 46) dX11_toysHeldBy_45 rfl rfl ?_
      refine g_iret dX11_toysHeldBy_46 rfl (by decide) (by decide) ?_
      have e : t = nT m := by omega
      subst e
      exact hQ
    · exact absurd c12 (by omega)
  | succ n ih =>
    intro t h1 h2
    refine g_iload_n (pc' := 5) dX11_toysHeldBy_4 rfl rfl ?_
    refine g_aload_n (pc' := 6) dX11_toysHeldBy_5 rfl rfl ?_
    refine g_getS (pc' := 9) (k := 11) (b := (13, 1)) dX11_toysHeldBy_6 rfl rfl ck_12 (by decide) fl_X11_35 rfl hs rfl ?_
    refine g_invV (pc' := 12) (ls_size hok hc.c6.1) dX11_toysHeldBy_9 rfl rfl ck_0 rfl ml_X11_103 im_Jx4a65c_size_8abf5 sl_Jx4a65c_size_8abf5 in_Jx4a65c co_Jx4a65c_size_8abf5 pd_Jx4a65c_size_8abf5 rfl (by omega) (by decide) ⟨by decide, by decide⟩ (Nat.le_of_ble_eq_true rfl) ?_
    rintro _ _ ⟨rfl, rfl⟩ -
    refine g_icmp_geN (tgt := 45) (pc' := 15) dX11_toysHeldBy_12 rfl (by decide) (by omega) (by omega) (fun c12 => ?_) (fun c12 => ?_)
    · exact absurd c12 (by omega)
    ·
      refine g_aload_n (pc' := 16) dX11_toysHeldBy_15 rfl rfl ?_
      refine g_getS (pc' := 19) (k := 11) (b := (13, 1)) dX11_toysHeldBy_16 rfl rfl ck_12 (by decide) fl_X11_35 rfl hs rfl ?_
      refine g_iload_n (pc' := 20) dX11_toysHeldBy_19 rfl rfl ?_
      refine g_invV (pc' := 23) (ls_get hok hc.c6.1 (j := t) (by omega) (by omega)) dX11_toysHeldBy_20 rfl rfl ck_0 rfl ml_X11_324 im_Jx4a65c_get_915e3 sl_Jx4a65c_get_915e3 in_Jx4a65c co_Jx4a65c_get_915e3 pd_Jx4a65c_get_915e3 rfl (by omega) (by decide) ⟨by decide, by decide⟩ (Nat.le_of_ble_eq_true rfl) ?_
      rintro _ _ ⟨rfl, rfl⟩ -
      refine g_cast (pc' := 26) dX11_toysHeldBy_23 rfl rfl ck_9 cl_X11_133 ?_
      refine g_getIv (v := m 119 (t)) (pc' := 29) (k := 8) dX11_toysHeldBy_26 rfl rfl ck_9 (by decide) fl_X11_271 rfl (hc.t8 (t := t) (by omega)) ?_
      refine g_aload_n (pc' := 30) dX11_toysHeldBy_29 rfl rfl ?_
      refine g_getIv (v := nI (f)) (pc' := 33) (k := 0) dX11_toysHeldBy_30 rfl rfl ck_2 (by decide) fl_X11_144 rfl (hc.f0 (f := f) (by omega)) ?_
      refine g_icmp_ne (tgt := 39) (pc' := 36) dX11_toysHeldBy_33 rfl (by decide) (fun c33 => ?_) (fun c33 => ?_)
      ·
        refine g_iincN (k := 1) (pc' := 42) dX11_toysHeldBy_39 rfl rfl (by decide) rfl ?_
        try simp only [List.set]
        refine g_goto (tgt := 4) dX11_toysHeldBy_42 (by decide) ?_
        have q := ih (t + 1) (by omega) (by omega)
        rw [cnt_f (p := (fun t => m 119 t = nI f)) c33, Nat.add_zero] at q
        exact q
      ·
        refine g_iincN (k := 1) (pc' := 39) dX11_toysHeldBy_36 rfl rfl (by decide) rfl ?_
        try simp only [List.set]
        refine g_iincN (k := 1) (pc' := 42) dX11_toysHeldBy_39 rfl rfl (by decide) rfl ?_
        try simp only [List.set]
        refine g_goto (tgt := 4) dX11_toysHeldBy_42 (by decide) ?_
        have q := ih (t + 1) (by omega) (by omega)
        rw [cnt_t (p := (fun t => m 119 t = nI f)) c33] at q
        exact q
set_option maxRecDepth 4000 in
theorem cx_toysHeldBy {E : En} (hok : EOK E) {h : Hp} {m : St} (hc : Cp m h) (hw : Wf m) (hx : Wx m) {f : Nat} (hf : f < nF m) : Call E m_X11_toysHeldBy 3 0 0 [vR TH, vR (4, f)] h (fun r0 h' => r0 = some (vI (nI (hsT m (nI f)))) ∧ h = h') := by
  have hs := hc.s
  have hKb := hw.k.2
  have hTb := hw.t.2
  have hFb := hw.f.2
  have hRb := hw.r.2
  have hGb := hw.g.2
  have hAb := hw.a.2
  have hTlb := hw.tl.2
  have hNwb := hw.w.2
  rw [← hsT_eq hx hf hFb]
  refine Call.enter hok (by decide) (Nat.le_of_ble_eq_true rfl) ?_
  show G E m_X11_toysHeldBy 3 0 0 _ h 0 [some (vR TH), some (vR (4, f)), none, none] [] h 0 0
  refine g_iconstN (n := 0) (pc' := 1) dX11_toysHeldBy_0 rfl ?_
  refine g_istore_n (pc' := 2) dX11_toysHeldBy_1 rfl (by decide) rfl ?_
  try simp only [List.set]
  refine g_iconstN (n := 0) (pc' := 3) dX11_toysHeldBy_2 rfl ?_
  refine g_istore_n (pc' := 4) dX11_toysHeldBy_3 rfl (by decide) rfl ?_
  try simp only [List.set]
  exact lx_toysHeldBy hok hc hw hf (Nat.le_refl _) ⟨rfl, rfl⟩ _ 0 (Nat.zero_le _) rfl
set_option maxRecDepth 4000 in
theorem cx_writeLettersT {E : En} (hok : EOK E) {h : Hp} {m : St} (hc : Cp m h) (hw : Wf m) (hx : Wx m) {k f : Nat} (hk : k < nK m) (hf : f < nF m) {t : Nat} (ht : t < nT m) (late : Int32) : Call E m_X11_writeLetters 4 0 0 [vR TH, vR (2, k), vR (3, t), vR (4, f), vI late] h (fun r h' => r = none ∧ Lw h h' ∧ ∀ l, isLt l → h'.1 (42, 0) (l - 97) = env m k (m 117 t) (lck m t) (nI t) (m 122 t) f late l) := by
  have hs := hc.s
  have hKb := hw.k.2
  have hTb := hw.t.2
  have hFb := hw.f.2
  have hRb := hw.r.2
  have hGb := hw.g.2
  have hAb := hw.a.2
  have hTlb := hw.tl.2
  have hNwb := hw.w.2
  refine Call.enter hok (by decide) (Nat.le_of_ble_eq_true rfl) ?_
  show G E m_X11_writeLetters 4 0 0 _ h 0 [some (vR TH), some (vR (2, k)), some (vR (3, t)), some (vR (4, f)), some (vI late)] [] h 0 0
  refine g_aload_n (pc' := 1) dX11_writeLetters_0 rfl rfl ?_
  refine g_getS (pc' := 4) (k := 14) (b := (7, 0)) dX11_writeLetters_1 rfl rfl ck_12 (by decide) fl_X11_56 rfl hs rfl ?_
  refine g_bipushN (n := 107) (pc' := 6) dX11_writeLetters_4 rfl (by decide) ?_
  refine g_aload_n (pc' := 7) dX11_writeLetters_6 rfl rfl ?_
  refine g_getIv (v := nI (k)) (pc' := 10) (k := 0) dX11_writeLetters_7 rfl rfl ck_3 (by decide) fl_X11_116 rfl (hc.k0 (k := k) (by omega)) ?_
  refine g_invV (pc' := 13) (cx_setLetter hok hs (u := 107) (by decide) _) dX11_writeLetters_10 rfl rfl ck_6 rfl ml_X11_461 im_X5_setLetter sl_X5_setLetter in_X5 co_X5_setLetter pd_X5_setLetter rfl (by omega) (by decide) ⟨by decide, by decide⟩ (Nat.le_of_ble_eq_true rfl) ?_
  rintro _ h1 ⟨rfl, q1⟩ -
  have hc := hc.lw q1.1
  have hs := hc.s
  refine g_aload_n (pc' := 14) dX11_writeLetters_13 rfl rfl ?_
  refine g_getS (pc' := 17) (k := 14) (b := (7, 0)) dX11_writeLetters_14 rfl rfl ck_12 (by decide) fl_X11_56 rfl hs rfl ?_
  refine g_bipushN (n := 97) (pc' := 19) dX11_writeLetters_17 rfl (by decide) ?_
  refine g_aload_n (pc' := 20) dX11_writeLetters_19 rfl rfl ?_
  refine g_getIv (v := m 108 (k)) (pc' := 23) (k := 1) dX11_writeLetters_20 rfl rfl ck_3 (by decide) fl_X11_465 rfl (hc.k1 (k := k) (by omega)) ?_
  refine g_invV (pc' := 26) (cx_setLetter hok hs (u := 97) (by decide) _) dX11_writeLetters_23 rfl rfl ck_6 rfl ml_X11_461 im_X5_setLetter sl_X5_setLetter in_X5 co_X5_setLetter pd_X5_setLetter rfl (by omega) (by decide) ⟨by decide, by decide⟩ (Nat.le_of_ble_eq_true rfl) ?_
  rintro _ h2 ⟨rfl, q2⟩ -
  have hc := hc.lw q2.1
  have hs := hc.s
  refine g_aload_n (pc' := 27) dX11_writeLetters_26 rfl rfl ?_
  refine g_getS (pc' := 30) (k := 14) (b := (7, 0)) dX11_writeLetters_27 rfl rfl ck_12 (by decide) fl_X11_56 rfl hs rfl ?_
  refine g_bipushN (n := 112) (pc' := 32) dX11_writeLetters_30 rfl (by decide) ?_
  refine g_aload_n (pc' := 33) dX11_writeLetters_32 rfl rfl ?_
  refine g_getIv (v := m 109 (k)) (pc' := 36) (k := 2) dX11_writeLetters_33 rfl rfl ck_3 (by decide) fl_X11_362 rfl (hc.k2 (k := k) (by omega)) ?_
  refine g_invV (pc' := 39) (cx_setLetter hok hs (u := 112) (by decide) _) dX11_writeLetters_36 rfl rfl ck_6 rfl ml_X11_461 im_X5_setLetter sl_X5_setLetter in_X5 co_X5_setLetter pd_X5_setLetter rfl (by omega) (by decide) ⟨by decide, by decide⟩ (Nat.le_of_ble_eq_true rfl) ?_
  rintro _ h3 ⟨rfl, q3⟩ -
  have hc := hc.lw q3.1
  have hs := hc.s
  refine g_aload_n (pc' := 40) dX11_writeLetters_39 rfl rfl ?_
  refine g_getS (pc' := 43) (k := 14) (b := (7, 0)) dX11_writeLetters_40 rfl rfl ck_12 (by decide) fl_X11_56 rfl hs rfl ?_
  refine g_bipushN (n := 122) (pc' := 45) dX11_writeLetters_43 rfl (by decide) ?_
  refine g_aload_n (pc' := 46) dX11_writeLetters_45 rfl rfl ?_
  refine g_getIv (v := m 110 (k)) (pc' := 49) (k := 3) dX11_writeLetters_46 rfl rfl ck_3 (by decide) fl_X11_468 rfl (hc.k3 (k := k) (by omega)) ?_
  refine g_invV (pc' := 52) (cx_setLetter hok hs (u := 122) (by decide) _) dX11_writeLetters_49 rfl rfl ck_6 rfl ml_X11_461 im_X5_setLetter sl_X5_setLetter in_X5 co_X5_setLetter pd_X5_setLetter rfl (by omega) (by decide) ⟨by decide, by decide⟩ (Nat.le_of_ble_eq_true rfl) ?_
  rintro _ h4 ⟨rfl, q4⟩ -
  have hc := hc.lw q4.1
  have hs := hc.s
  refine g_aload_n (pc' := 53) dX11_writeLetters_52 rfl rfl ?_
  refine g_getS (pc' := 56) (k := 14) (b := (7, 0)) dX11_writeLetters_53 rfl rfl ck_12 (by decide) fl_X11_56 rfl hs rfl ?_
  refine g_bipushN (n := 119) (pc' := 58) dX11_writeLetters_56 rfl (by decide) ?_
  refine g_aload_n (pc' := 59) dX11_writeLetters_58 rfl rfl ?_
  refine g_ifnonnull (tgt := 66) dX11_writeLetters_59 (by decide) ?_
  refine g_aload_n (pc' := 67) dX11_writeLetters_66 rfl rfl ?_
  refine g_getIv (v := m 117 (t)) (pc' := 70) (k := 12) dX11_writeLetters_67 rfl rfl ck_9 (by decide) fl_X11_274 rfl (hc.t12 (t := t) (by omega)) ?_
  refine g_invV (pc' := 73) (cx_setLetter hok hs (u := 119) (by decide) _) dX11_writeLetters_70 rfl rfl ck_6 rfl ml_X11_461 im_X5_setLetter sl_X5_setLetter in_X5 co_X5_setLetter pd_X5_setLetter rfl (by omega) (by decide) ⟨by decide, by decide⟩ (Nat.le_of_ble_eq_true rfl) ?_
  rintro _ h5 ⟨rfl, q5⟩ -
  have hc := hc.lw q5.1
  have hs := hc.s
  refine g_aload_n (pc' := 74) dX11_writeLetters_73 rfl rfl ?_
  refine g_getS (pc' := 77) (k := 14) (b := (7, 0)) dX11_writeLetters_74 rfl rfl ck_12 (by decide) fl_X11_56 rfl hs rfl ?_
  refine g_bipushN (n := 109) (pc' := 79) dX11_writeLetters_77 rfl (by decide) ?_
  refine g_aload_n (pc' := 80) dX11_writeLetters_79 rfl rfl ?_
  refine g_ifnonnull (tgt := 87) dX11_writeLetters_80 (by decide) ?_
  refine g_aload_n (pc' := 88) dX11_writeLetters_87 rfl rfl ?_
  refine g_invV (pc' := 91) (cx_lacking hok hc hw (t := t) (by omega)) dX11_writeLetters_88 rfl rfl ck_9 rfl ml_X11_265 im_X8_lacking sl_X8_lacking in_X8 co_X8_lacking pd_X8_lacking rfl (by omega) (by decide) ⟨by decide, by decide⟩ (Nat.le_of_ble_eq_true rfl) ?_
  rintro _ _ ⟨rfl, rfl⟩ -
  refine g_invV (pc' := 94) (cx_setLetter hok hs (u := 109) (by decide) _) dX11_writeLetters_91 rfl rfl ck_6 rfl ml_X11_461 im_X5_setLetter sl_X5_setLetter in_X5 co_X5_setLetter pd_X5_setLetter rfl (by omega) (by decide) ⟨by decide, by decide⟩ (Nat.le_of_ble_eq_true rfl) ?_
  rintro _ h6 ⟨rfl, q6⟩ -
  have hc := hc.lw q6.1
  have hs := hc.s
  refine g_aload_n (pc' := 95) dX11_writeLetters_94 rfl rfl ?_
  refine g_getS (pc' := 98) (k := 14) (b := (7, 0)) dX11_writeLetters_95 rfl rfl ck_12 (by decide) fl_X11_56 rfl hs rfl ?_
  refine g_bipushN (n := 116) (pc' := 100) dX11_writeLetters_98 rfl (by decide) ?_
  refine g_aload_n (pc' := 101) dX11_writeLetters_100 rfl rfl ?_
  refine g_ifnonnull (tgt := 108) dX11_writeLetters_101 (by decide) ?_
  refine g_aload_n (pc' := 109) dX11_writeLetters_108 rfl rfl ?_
  refine g_getIv (v := nI (t)) (pc' := 112) (k := 0) dX11_writeLetters_109 rfl rfl ck_9 (by decide) fl_X11_138 rfl (hc.t0 (t := t) (by omega)) ?_
  refine g_invV (pc' := 115) (cx_setLetter hok hs (u := 116) (by decide) _) dX11_writeLetters_112 rfl rfl ck_6 rfl ml_X11_461 im_X5_setLetter sl_X5_setLetter in_X5 co_X5_setLetter pd_X5_setLetter rfl (by omega) (by decide) ⟨by decide, by decide⟩ (Nat.le_of_ble_eq_true rfl) ?_
  rintro _ h7 ⟨rfl, q7⟩ -
  have hc := hc.lw q7.1
  have hs := hc.s
  refine g_aload_n (pc' := 116) dX11_writeLetters_115 rfl rfl ?_
  refine g_getS (pc' := 119) (k := 14) (b := (7, 0)) dX11_writeLetters_116 rfl rfl ck_12 (by decide) fl_X11_56 rfl hs rfl ?_
  refine g_bipushN (n := 110) (pc' := 121) dX11_writeLetters_119 rfl (by decide) ?_
  refine g_aload_n (pc' := 122) dX11_writeLetters_121 rfl rfl ?_
  refine g_ifnonnull (tgt := 129) dX11_writeLetters_122 (by decide) ?_
  refine g_aload_n (pc' := 130) dX11_writeLetters_129 rfl rfl ?_
  refine g_getIv (v := m 122 (t)) (pc' := 133) (k := 13) dX11_writeLetters_130 rfl rfl ck_9 (by decide) fl_X11_277 rfl (hc.t13 (t := t) (by omega)) ?_
  refine g_invV (pc' := 136) (cx_setLetter hok hs (u := 110) (by decide) _) dX11_writeLetters_133 rfl rfl ck_6 rfl ml_X11_461 im_X5_setLetter sl_X5_setLetter in_X5 co_X5_setLetter pd_X5_setLetter rfl (by omega) (by decide) ⟨by decide, by decide⟩ (Nat.le_of_ble_eq_true rfl) ?_
  rintro _ h8 ⟨rfl, q8⟩ -
  have hc := hc.lw q8.1
  have hs := hc.s
  refine g_aload_n (pc' := 137) dX11_writeLetters_136 rfl rfl ?_
  refine g_getS (pc' := 140) (k := 14) (b := (7, 0)) dX11_writeLetters_137 rfl rfl ck_12 (by decide) fl_X11_56 rfl hs rfl ?_
  refine g_bipushN (n := 121) (pc' := 142) dX11_writeLetters_140 rfl (by decide) ?_
  refine g_aload_n (pc' := 143) dX11_writeLetters_142 rfl rfl ?_
  refine g_getIv (v := m 126 (f)) (pc' := 146) (k := 1) dX11_writeLetters_143 rfl rfl ck_2 (by decide) fl_X11_471 rfl (hc.f1 (f := f) (by omega)) ?_
  refine g_invV (pc' := 149) (cx_setLetter hok hs (u := 121) (by decide) _) dX11_writeLetters_146 rfl rfl ck_6 rfl ml_X11_461 im_X5_setLetter sl_X5_setLetter in_X5 co_X5_setLetter pd_X5_setLetter rfl (by omega) (by decide) ⟨by decide, by decide⟩ (Nat.le_of_ble_eq_true rfl) ?_
  rintro _ h9 ⟨rfl, q9⟩ -
  have hc := hc.lw q9.1
  have hs := hc.s
  refine g_aload_n (pc' := 150) dX11_writeLetters_149 rfl rfl ?_
  refine g_getS (pc' := 153) (k := 14) (b := (7, 0)) dX11_writeLetters_150 rfl rfl ck_12 (by decide) fl_X11_56 rfl hs rfl ?_
  refine g_bipushN (n := 101) (pc' := 155) dX11_writeLetters_153 rfl (by decide) ?_
  refine g_aload_n (pc' := 156) dX11_writeLetters_155 rfl rfl ?_
  refine g_getIv (v := m 127 (f)) (pc' := 159) (k := 2) dX11_writeLetters_156 rfl rfl ck_2 (by decide) fl_X11_474 rfl (hc.f2 (f := f) (by omega)) ?_
  refine g_invV (pc' := 162) (cx_setLetter hok hs (u := 101) (by decide) _) dX11_writeLetters_159 rfl rfl ck_6 rfl ml_X11_461 im_X5_setLetter sl_X5_setLetter in_X5 co_X5_setLetter pd_X5_setLetter rfl (by omega) (by decide) ⟨by decide, by decide⟩ (Nat.le_of_ble_eq_true rfl) ?_
  rintro _ h10 ⟨rfl, q10⟩ -
  have hc := hc.lw q10.1
  have hs := hc.s
  refine g_aload_n (pc' := 163) dX11_writeLetters_162 rfl rfl ?_
  refine g_getS (pc' := 166) (k := 14) (b := (7, 0)) dX11_writeLetters_163 rfl rfl ck_12 (by decide) fl_X11_56 rfl hs rfl ?_
  refine g_bipushN (n := 118) (pc' := 168) dX11_writeLetters_166 rfl (by decide) ?_
  refine g_aload_n (pc' := 169) dX11_writeLetters_168 rfl rfl ?_
  refine g_getIv (v := m 128 (f)) (pc' := 172) (k := 3) dX11_writeLetters_169 rfl rfl ck_2 (by decide) fl_X11_477 rfl (hc.f3 (f := f) (by omega)) ?_
  refine g_invV (pc' := 175) (cx_setLetter hok hs (u := 118) (by decide) _) dX11_writeLetters_172 rfl rfl ck_6 rfl ml_X11_461 im_X5_setLetter sl_X5_setLetter in_X5 co_X5_setLetter pd_X5_setLetter rfl (by omega) (by decide) ⟨by decide, by decide⟩ (Nat.le_of_ble_eq_true rfl) ?_
  rintro _ h11 ⟨rfl, q11⟩ -
  have hc := hc.lw q11.1
  have hs := hc.s
  refine g_aload_n (pc' := 176) dX11_writeLetters_175 rfl rfl ?_
  refine g_getS (pc' := 179) (k := 14) (b := (7, 0)) dX11_writeLetters_176 rfl rfl ck_12 (by decide) fl_X11_56 rfl hs rfl ?_
  refine g_bipushN (n := 104) (pc' := 181) dX11_writeLetters_179 rfl (by decide) ?_
  refine g_aload_n (pc' := 182) dX11_writeLetters_181 rfl rfl ?_
  refine g_aload_n (pc' := 183) dX11_writeLetters_182 rfl rfl ?_
  refine g_invV (pc' := 186) (cx_toysHeldBy hok hc hw hx (f := f) (by omega)) dX11_writeLetters_183 rfl rfl ck_12 rfl ml_X11_451 im_X11_toysHeldBy sl_X11_toysHeldBy in_X11 co_X11_toysHeldBy pd_X11_toysHeldBy rfl (by omega) (by decide) ⟨by decide, by decide⟩ (Nat.le_of_ble_eq_true rfl) ?_
  rintro _ _ ⟨rfl, rfl⟩ -
  refine g_invV (pc' := 189) (cx_setLetter hok hs (u := 104) (by decide) _) dX11_writeLetters_186 rfl rfl ck_6 rfl ml_X11_461 im_X5_setLetter sl_X5_setLetter in_X5 co_X5_setLetter pd_X5_setLetter rfl (by omega) (by decide) ⟨by decide, by decide⟩ (Nat.le_of_ble_eq_true rfl) ?_
  rintro _ h12 ⟨rfl, q12⟩ -
  have hc := hc.lw q12.1
  have hs := hc.s
  refine g_aload_n (pc' := 190) dX11_writeLetters_189 rfl rfl ?_
  refine g_getS (pc' := 193) (k := 14) (b := (7, 0)) dX11_writeLetters_190 rfl rfl ck_12 (by decide) fl_X11_56 rfl hs rfl ?_
  refine g_bipushN (n := 100) (pc' := 195) dX11_writeLetters_193 rfl (by decide) ?_
  refine g_aload_n (pc' := 196) dX11_writeLetters_195 rfl rfl ?_
  refine g_getIv (v := m 1 2) (pc' := 199) (k := 0) dX11_writeLetters_196 rfl rfl ck_12 (by decide) fl_X11_95 rfl (hc.c1.1) ?_
  refine g_invV (pc' := 202) (cx_setLetter hok hs (u := 100) (by decide) _) dX11_writeLetters_199 rfl rfl ck_6 rfl ml_X11_461 im_X5_setLetter sl_X5_setLetter in_X5 co_X5_setLetter pd_X5_setLetter rfl (by omega) (by decide) ⟨by decide, by decide⟩ (Nat.le_of_ble_eq_true rfl) ?_
  rintro _ h13 ⟨rfl, q13⟩ -
  have hc := hc.lw q13.1
  have hs := hc.s
  refine g_aload_n (pc' := 203) dX11_writeLetters_202 rfl rfl ?_
  refine g_getS (pc' := 206) (k := 14) (b := (7, 0)) dX11_writeLetters_203 rfl rfl ck_12 (by decide) fl_X11_56 rfl hs rfl ?_
  refine g_bipushN (n := 115) (pc' := 208) dX11_writeLetters_206 rfl (by decide) ?_
  refine g_aload_n (pc' := 209) dX11_writeLetters_208 rfl rfl ?_
  refine g_getIv (v := nI (nW m)) (pc' := 212) (k := 0) dX11_writeLetters_209 rfl rfl ck_12 (by decide) fl_X11_95 rfl (hc.c1.1.trans hw.w.1) ?_
  refine g_sipushN (n := 365) (pc' := 215) dX11_writeLetters_212 rfl (by decide) ?_
  refine g_iremN (pc' := 216) dX11_writeLetters_215 rfl (by omega) (by omega) (by omega) ?_
  refine g_invV (pc' := 219) (cx_setLetter hok hs (u := 115) (by decide) _) dX11_writeLetters_216 rfl rfl ck_6 rfl ml_X11_461 im_X5_setLetter sl_X5_setLetter in_X5 co_X5_setLetter pd_X5_setLetter rfl (by omega) (by decide) ⟨by decide, by decide⟩ (Nat.le_of_ble_eq_true rfl) ?_
  rintro _ h14 ⟨rfl, q14⟩ -
  have hc := hc.lw q14.1
  have hs := hc.s
  refine g_aload_n (pc' := 220) dX11_writeLetters_219 rfl rfl ?_
  refine g_getS (pc' := 223) (k := 14) (b := (7, 0)) dX11_writeLetters_220 rfl rfl ck_12 (by decide) fl_X11_56 rfl hs rfl ?_
  refine g_bipushN (n := 108) (pc' := 225) dX11_writeLetters_223 rfl (by decide) ?_
  refine g_iload (pc' := 227) dX11_writeLetters_225 rfl rfl ?_
  refine g_invV (pc' := 230) (cx_setLetter hok hs (u := 108) (by decide) _) dX11_writeLetters_227 rfl rfl ck_6 rfl ml_X11_461 im_X5_setLetter sl_X5_setLetter in_X5 co_X5_setLetter pd_X5_setLetter rfl (by omega) (by decide) ⟨by decide, by decide⟩ (Nat.le_of_ble_eq_true rfl) ?_
  rintro _ h15 ⟨rfl, q15⟩ -
  have hc := hc.lw q15.1
  have hs := hc.s
  refine g_aload_n (pc' := 231) dX11_writeLetters_230 rfl rfl ?_
  refine g_getS (pc' := 234) (k := 14) (b := (7, 0)) dX11_writeLetters_231 rfl rfl ck_12 (by decide) fl_X11_56 rfl hs rfl ?_
  refine g_bipushN (n := 113) (pc' := 236) dX11_writeLetters_234 rfl (by decide) ?_
  refine g_aload_n (pc' := 237) dX11_writeLetters_236 rfl rfl ?_
  refine g_aload_n (pc' := 238) dX11_writeLetters_237 rfl rfl ?_
  refine g_getIv (v := nI (k)) (pc' := 241) (k := 0) dX11_writeLetters_238 rfl rfl ck_3 (by decide) fl_X11_116 rfl (hc.k0 (k := k) (by omega)) ?_
  refine g_aload_n (pc' := 242) dX11_writeLetters_241 rfl rfl ?_
  refine g_getIv (v := m 1 2) (pc' := 245) (k := 0) dX11_writeLetters_242 rfl rfl ck_12 (by decide) fl_X11_95 rfl (hc.c1.1) ?_
  refine g_invV (pc' := 248) (cx_daysWaited hok hc hw (f := f) (k := k) (by omega) (by omega) _) dX11_writeLetters_245 rfl rfl ck_2 rfl ml_X11_480 im_X1_daysWaited sl_X1_daysWaited in_X1 co_X1_daysWaited pd_X1_daysWaited rfl (by omega) (by decide) ⟨by decide, by decide⟩ (Nat.le_of_ble_eq_true rfl) ?_
  rintro _ _ ⟨rfl, rfl⟩ -
  refine g_invV (pc' := 251) (cx_setLetter hok hs (u := 113) (by decide) _) dX11_writeLetters_248 rfl rfl ck_6 rfl ml_X11_461 im_X5_setLetter sl_X5_setLetter in_X5 co_X5_setLetter pd_X5_setLetter rfl (by omega) (by decide) ⟨by decide, by decide⟩ (Nat.le_of_ble_eq_true rfl) ?_
  rintro _ h16 ⟨rfl, q16⟩ -
  have hc := hc.lw q16.1
  have hs := hc.s
  refine g_aload_n (pc' := 252) dX11_writeLetters_251 rfl rfl ?_
  refine g_getS (pc' := 255) (k := 14) (b := (7, 0)) dX11_writeLetters_252 rfl rfl ck_12 (by decide) fl_X11_56 rfl hs rfl ?_
  refine g_bipushN (n := 99) (pc' := 257) dX11_writeLetters_255 rfl (by decide) ?_
  refine g_aload_n (pc' := 258) dX11_writeLetters_257 rfl rfl ?_
  refine g_aload_n (pc' := 259) dX11_writeLetters_258 rfl rfl ?_
  refine g_invV (pc' := 262) (cx_waitingFor hok hc hw (k := k) (by omega)) dX11_writeLetters_259 rfl rfl ck_12 rfl ml_X11_347 im_X11_waitingFor sl_X11_waitingFor in_X11 co_X11_waitingFor pd_X11_waitingFor rfl (by omega) (by decide) ⟨by decide, by decide⟩ (Nat.le_of_ble_eq_true rfl) ?_
  rintro _ _ ⟨rfl, rfl⟩ -
  refine g_invV (pc' := 265) (cx_setLetter hok hs (u := 99) (by decide) _) dX11_writeLetters_262 rfl rfl ck_6 rfl ml_X11_461 im_X5_setLetter sl_X5_setLetter in_X5 co_X5_setLetter pd_X5_setLetter rfl (by omega) (by decide) ⟨by decide, by decide⟩ (Nat.le_of_ble_eq_true rfl) ?_
  rintro _ h17 ⟨rfl, q17⟩ -
  have hc := hc.lw q17.1
  have hs := hc.s
  refine g_vret dX11_writeLetters_265 rfl (by decide) (by decide) ?_
  refine ⟨rfl, ((((((((((((((((q1.1).tr q2.1).tr q3.1).tr q4.1).tr q5.1).tr q6.1).tr q7.1).tr q8.1).tr q9.1).tr q10.1).tr q11.1).tr q12.1).tr q13.1).tr q14.1).tr q15.1).tr q16.1).tr q17.1, ?_⟩
  intro l hl
  rcases hl with rfl | rfl | rfl | rfl | rfl | rfl | rfl | rfl | rfl | rfl | rfl | rfl | rfl | rfl | rfl | rfl | rfl
  · exact (q17.2.2 10 (by decide)).trans ((q16.2.2 10 (by decide)).trans ((q15.2.2 10 (by decide)).trans ((q14.2.2 10 (by decide)).trans ((q13.2.2 10 (by decide)).trans ((q12.2.2 10 (by decide)).trans ((q11.2.2 10 (by decide)).trans ((q10.2.2 10 (by decide)).trans ((q9.2.2 10 (by decide)).trans ((q8.2.2 10 (by decide)).trans ((q7.2.2 10 (by decide)).trans ((q6.2.2 10 (by decide)).trans ((q5.2.2 10 (by decide)).trans ((q4.2.2 10 (by decide)).trans ((q3.2.2 10 (by decide)).trans ((q2.2.2 10 (by decide)).trans (q1.2.1))))))))))))))))
  · exact (q17.2.2 0 (by decide)).trans ((q16.2.2 0 (by decide)).trans ((q15.2.2 0 (by decide)).trans ((q14.2.2 0 (by decide)).trans ((q13.2.2 0 (by decide)).trans ((q12.2.2 0 (by decide)).trans ((q11.2.2 0 (by decide)).trans ((q10.2.2 0 (by decide)).trans ((q9.2.2 0 (by decide)).trans ((q8.2.2 0 (by decide)).trans ((q7.2.2 0 (by decide)).trans ((q6.2.2 0 (by decide)).trans ((q5.2.2 0 (by decide)).trans ((q4.2.2 0 (by decide)).trans ((q3.2.2 0 (by decide)).trans (q2.2.1)))))))))))))))
  · exact (q17.2.2 15 (by decide)).trans ((q16.2.2 15 (by decide)).trans ((q15.2.2 15 (by decide)).trans ((q14.2.2 15 (by decide)).trans ((q13.2.2 15 (by decide)).trans ((q12.2.2 15 (by decide)).trans ((q11.2.2 15 (by decide)).trans ((q10.2.2 15 (by decide)).trans ((q9.2.2 15 (by decide)).trans ((q8.2.2 15 (by decide)).trans ((q7.2.2 15 (by decide)).trans ((q6.2.2 15 (by decide)).trans ((q5.2.2 15 (by decide)).trans ((q4.2.2 15 (by decide)).trans (q3.2.1))))))))))))))
  · exact (q17.2.2 25 (by decide)).trans ((q16.2.2 25 (by decide)).trans ((q15.2.2 25 (by decide)).trans ((q14.2.2 25 (by decide)).trans ((q13.2.2 25 (by decide)).trans ((q12.2.2 25 (by decide)).trans ((q11.2.2 25 (by decide)).trans ((q10.2.2 25 (by decide)).trans ((q9.2.2 25 (by decide)).trans ((q8.2.2 25 (by decide)).trans ((q7.2.2 25 (by decide)).trans ((q6.2.2 25 (by decide)).trans ((q5.2.2 25 (by decide)).trans (q4.2.1)))))))))))))
  · exact (q17.2.2 22 (by decide)).trans ((q16.2.2 22 (by decide)).trans ((q15.2.2 22 (by decide)).trans ((q14.2.2 22 (by decide)).trans ((q13.2.2 22 (by decide)).trans ((q12.2.2 22 (by decide)).trans ((q11.2.2 22 (by decide)).trans ((q10.2.2 22 (by decide)).trans ((q9.2.2 22 (by decide)).trans ((q8.2.2 22 (by decide)).trans ((q7.2.2 22 (by decide)).trans ((q6.2.2 22 (by decide)).trans (q5.2.1))))))))))))
  · exact (q17.2.2 12 (by decide)).trans ((q16.2.2 12 (by decide)).trans ((q15.2.2 12 (by decide)).trans ((q14.2.2 12 (by decide)).trans ((q13.2.2 12 (by decide)).trans ((q12.2.2 12 (by decide)).trans ((q11.2.2 12 (by decide)).trans ((q10.2.2 12 (by decide)).trans ((q9.2.2 12 (by decide)).trans ((q8.2.2 12 (by decide)).trans ((q7.2.2 12 (by decide)).trans (q6.2.1)))))))))))
  · exact (q17.2.2 19 (by decide)).trans ((q16.2.2 19 (by decide)).trans ((q15.2.2 19 (by decide)).trans ((q14.2.2 19 (by decide)).trans ((q13.2.2 19 (by decide)).trans ((q12.2.2 19 (by decide)).trans ((q11.2.2 19 (by decide)).trans ((q10.2.2 19 (by decide)).trans ((q9.2.2 19 (by decide)).trans ((q8.2.2 19 (by decide)).trans (q7.2.1))))))))))
  · exact (q17.2.2 13 (by decide)).trans ((q16.2.2 13 (by decide)).trans ((q15.2.2 13 (by decide)).trans ((q14.2.2 13 (by decide)).trans ((q13.2.2 13 (by decide)).trans ((q12.2.2 13 (by decide)).trans ((q11.2.2 13 (by decide)).trans ((q10.2.2 13 (by decide)).trans ((q9.2.2 13 (by decide)).trans (q8.2.1)))))))))
  · exact (q17.2.2 24 (by decide)).trans ((q16.2.2 24 (by decide)).trans ((q15.2.2 24 (by decide)).trans ((q14.2.2 24 (by decide)).trans ((q13.2.2 24 (by decide)).trans ((q12.2.2 24 (by decide)).trans ((q11.2.2 24 (by decide)).trans ((q10.2.2 24 (by decide)).trans (q9.2.1))))))))
  · exact (q17.2.2 4 (by decide)).trans ((q16.2.2 4 (by decide)).trans ((q15.2.2 4 (by decide)).trans ((q14.2.2 4 (by decide)).trans ((q13.2.2 4 (by decide)).trans ((q12.2.2 4 (by decide)).trans ((q11.2.2 4 (by decide)).trans (q10.2.1)))))))
  · exact (q17.2.2 21 (by decide)).trans ((q16.2.2 21 (by decide)).trans ((q15.2.2 21 (by decide)).trans ((q14.2.2 21 (by decide)).trans ((q13.2.2 21 (by decide)).trans ((q12.2.2 21 (by decide)).trans (q11.2.1))))))
  · exact (q17.2.2 7 (by decide)).trans ((q16.2.2 7 (by decide)).trans ((q15.2.2 7 (by decide)).trans ((q14.2.2 7 (by decide)).trans ((q13.2.2 7 (by decide)).trans (q12.2.1)))))
  · exact (q17.2.2 3 (by decide)).trans ((q16.2.2 3 (by decide)).trans ((q15.2.2 3 (by decide)).trans ((q14.2.2 3 (by decide)).trans (q13.2.1))))
  · exact (q17.2.2 18 (by decide)).trans ((q16.2.2 18 (by decide)).trans ((q15.2.2 18 (by decide)).trans (q14.2.1)))
  · exact (q17.2.2 11 (by decide)).trans ((q16.2.2 11 (by decide)).trans (q15.2.1))
  · exact (q17.2.2 16 (by decide)).trans (q16.2.1)
  · exact q17.2.1
set_option maxRecDepth 4000 in
theorem cx_writeLettersN {E : En} (hok : EOK E) {h : Hp} {m : St} (hc : Cp m h) (hw : Wf m) (hx : Wx m) {k f : Nat} (hk : k < nK m) (hf : f < nF m) (late : Int32) : Call E m_X11_writeLetters 4 0 0 [vR TH, vR (2, k), vN, vR (4, f), vI late] h (fun r h' => r = none ∧ Lw h h' ∧ ∀ l, isLt l → h'.1 (42, 0) (l - 97) = env m k 0 0 0 0 f late l) := by
  have hs := hc.s
  have hKb := hw.k.2
  have hTb := hw.t.2
  have hFb := hw.f.2
  have hRb := hw.r.2
  have hGb := hw.g.2
  have hAb := hw.a.2
  have hTlb := hw.tl.2
  have hNwb := hw.w.2
  refine Call.enter hok (by decide) (Nat.le_of_ble_eq_true rfl) ?_
  show G E m_X11_writeLetters 4 0 0 _ h 0 [some (vR TH), some (vR (2, k)), some (vN), some (vR (4, f)), some (vI late)] [] h 0 0
  refine g_aload_n (pc' := 1) dX11_writeLetters_0 rfl rfl ?_
  refine g_getS (pc' := 4) (k := 14) (b := (7, 0)) dX11_writeLetters_1 rfl rfl ck_12 (by decide) fl_X11_56 rfl hs rfl ?_
  refine g_bipushN (n := 107) (pc' := 6) dX11_writeLetters_4 rfl (by decide) ?_
  refine g_aload_n (pc' := 7) dX11_writeLetters_6 rfl rfl ?_
  refine g_getIv (v := nI (k)) (pc' := 10) (k := 0) dX11_writeLetters_7 rfl rfl ck_3 (by decide) fl_X11_116 rfl (hc.k0 (k := k) (by omega)) ?_
  refine g_invV (pc' := 13) (cx_setLetter hok hs (u := 107) (by decide) _) dX11_writeLetters_10 rfl rfl ck_6 rfl ml_X11_461 im_X5_setLetter sl_X5_setLetter in_X5 co_X5_setLetter pd_X5_setLetter rfl (by omega) (by decide) ⟨by decide, by decide⟩ (Nat.le_of_ble_eq_true rfl) ?_
  rintro _ h1 ⟨rfl, q1⟩ -
  have hc := hc.lw q1.1
  have hs := hc.s
  refine g_aload_n (pc' := 14) dX11_writeLetters_13 rfl rfl ?_
  refine g_getS (pc' := 17) (k := 14) (b := (7, 0)) dX11_writeLetters_14 rfl rfl ck_12 (by decide) fl_X11_56 rfl hs rfl ?_
  refine g_bipushN (n := 97) (pc' := 19) dX11_writeLetters_17 rfl (by decide) ?_
  refine g_aload_n (pc' := 20) dX11_writeLetters_19 rfl rfl ?_
  refine g_getIv (v := m 108 (k)) (pc' := 23) (k := 1) dX11_writeLetters_20 rfl rfl ck_3 (by decide) fl_X11_465 rfl (hc.k1 (k := k) (by omega)) ?_
  refine g_invV (pc' := 26) (cx_setLetter hok hs (u := 97) (by decide) _) dX11_writeLetters_23 rfl rfl ck_6 rfl ml_X11_461 im_X5_setLetter sl_X5_setLetter in_X5 co_X5_setLetter pd_X5_setLetter rfl (by omega) (by decide) ⟨by decide, by decide⟩ (Nat.le_of_ble_eq_true rfl) ?_
  rintro _ h2 ⟨rfl, q2⟩ -
  have hc := hc.lw q2.1
  have hs := hc.s
  refine g_aload_n (pc' := 27) dX11_writeLetters_26 rfl rfl ?_
  refine g_getS (pc' := 30) (k := 14) (b := (7, 0)) dX11_writeLetters_27 rfl rfl ck_12 (by decide) fl_X11_56 rfl hs rfl ?_
  refine g_bipushN (n := 112) (pc' := 32) dX11_writeLetters_30 rfl (by decide) ?_
  refine g_aload_n (pc' := 33) dX11_writeLetters_32 rfl rfl ?_
  refine g_getIv (v := m 109 (k)) (pc' := 36) (k := 2) dX11_writeLetters_33 rfl rfl ck_3 (by decide) fl_X11_362 rfl (hc.k2 (k := k) (by omega)) ?_
  refine g_invV (pc' := 39) (cx_setLetter hok hs (u := 112) (by decide) _) dX11_writeLetters_36 rfl rfl ck_6 rfl ml_X11_461 im_X5_setLetter sl_X5_setLetter in_X5 co_X5_setLetter pd_X5_setLetter rfl (by omega) (by decide) ⟨by decide, by decide⟩ (Nat.le_of_ble_eq_true rfl) ?_
  rintro _ h3 ⟨rfl, q3⟩ -
  have hc := hc.lw q3.1
  have hs := hc.s
  refine g_aload_n (pc' := 40) dX11_writeLetters_39 rfl rfl ?_
  refine g_getS (pc' := 43) (k := 14) (b := (7, 0)) dX11_writeLetters_40 rfl rfl ck_12 (by decide) fl_X11_56 rfl hs rfl ?_
  refine g_bipushN (n := 122) (pc' := 45) dX11_writeLetters_43 rfl (by decide) ?_
  refine g_aload_n (pc' := 46) dX11_writeLetters_45 rfl rfl ?_
  refine g_getIv (v := m 110 (k)) (pc' := 49) (k := 3) dX11_writeLetters_46 rfl rfl ck_3 (by decide) fl_X11_468 rfl (hc.k3 (k := k) (by omega)) ?_
  refine g_invV (pc' := 52) (cx_setLetter hok hs (u := 122) (by decide) _) dX11_writeLetters_49 rfl rfl ck_6 rfl ml_X11_461 im_X5_setLetter sl_X5_setLetter in_X5 co_X5_setLetter pd_X5_setLetter rfl (by omega) (by decide) ⟨by decide, by decide⟩ (Nat.le_of_ble_eq_true rfl) ?_
  rintro _ h4 ⟨rfl, q4⟩ -
  have hc := hc.lw q4.1
  have hs := hc.s
  refine g_aload_n (pc' := 53) dX11_writeLetters_52 rfl rfl ?_
  refine g_getS (pc' := 56) (k := 14) (b := (7, 0)) dX11_writeLetters_53 rfl rfl ck_12 (by decide) fl_X11_56 rfl hs rfl ?_
  refine g_bipushN (n := 119) (pc' := 58) dX11_writeLetters_56 rfl (by decide) ?_
  refine g_aload_n (pc' := 59) dX11_writeLetters_58 rfl rfl ?_
  refine g_ifnonnullN (pc' := 62) dX11_writeLetters_59 rfl ?_
  refine g_iconstN (n := 0) (pc' := 63) dX11_writeLetters_62 rfl ?_
  refine g_goto (tgt := 70) dX11_writeLetters_63 (by decide) ?_
  refine g_invV (pc' := 73) (cx_setLetter hok hs (u := 119) (by decide) _) dX11_writeLetters_70 rfl rfl ck_6 rfl ml_X11_461 im_X5_setLetter sl_X5_setLetter in_X5 co_X5_setLetter pd_X5_setLetter rfl (by omega) (by decide) ⟨by decide, by decide⟩ (Nat.le_of_ble_eq_true rfl) ?_
  rintro _ h5 ⟨rfl, q5⟩ -
  have hc := hc.lw q5.1
  have hs := hc.s
  refine g_aload_n (pc' := 74) dX11_writeLetters_73 rfl rfl ?_
  refine g_getS (pc' := 77) (k := 14) (b := (7, 0)) dX11_writeLetters_74 rfl rfl ck_12 (by decide) fl_X11_56 rfl hs rfl ?_
  refine g_bipushN (n := 109) (pc' := 79) dX11_writeLetters_77 rfl (by decide) ?_
  refine g_aload_n (pc' := 80) dX11_writeLetters_79 rfl rfl ?_
  refine g_ifnonnullN (pc' := 83) dX11_writeLetters_80 rfl ?_
  refine g_iconstN (n := 0) (pc' := 84) dX11_writeLetters_83 rfl ?_
  refine g_goto (tgt := 91) dX11_writeLetters_84 (by decide) ?_
  refine g_invV (pc' := 94) (cx_setLetter hok hs (u := 109) (by decide) _) dX11_writeLetters_91 rfl rfl ck_6 rfl ml_X11_461 im_X5_setLetter sl_X5_setLetter in_X5 co_X5_setLetter pd_X5_setLetter rfl (by omega) (by decide) ⟨by decide, by decide⟩ (Nat.le_of_ble_eq_true rfl) ?_
  rintro _ h6 ⟨rfl, q6⟩ -
  have hc := hc.lw q6.1
  have hs := hc.s
  refine g_aload_n (pc' := 95) dX11_writeLetters_94 rfl rfl ?_
  refine g_getS (pc' := 98) (k := 14) (b := (7, 0)) dX11_writeLetters_95 rfl rfl ck_12 (by decide) fl_X11_56 rfl hs rfl ?_
  refine g_bipushN (n := 116) (pc' := 100) dX11_writeLetters_98 rfl (by decide) ?_
  refine g_aload_n (pc' := 101) dX11_writeLetters_100 rfl rfl ?_
  refine g_ifnonnullN (pc' := 104) dX11_writeLetters_101 rfl ?_
  refine g_iconstN (n := 0) (pc' := 105) dX11_writeLetters_104 rfl ?_
  refine g_goto (tgt := 112) dX11_writeLetters_105 (by decide) ?_
  refine g_invV (pc' := 115) (cx_setLetter hok hs (u := 116) (by decide) _) dX11_writeLetters_112 rfl rfl ck_6 rfl ml_X11_461 im_X5_setLetter sl_X5_setLetter in_X5 co_X5_setLetter pd_X5_setLetter rfl (by omega) (by decide) ⟨by decide, by decide⟩ (Nat.le_of_ble_eq_true rfl) ?_
  rintro _ h7 ⟨rfl, q7⟩ -
  have hc := hc.lw q7.1
  have hs := hc.s
  refine g_aload_n (pc' := 116) dX11_writeLetters_115 rfl rfl ?_
  refine g_getS (pc' := 119) (k := 14) (b := (7, 0)) dX11_writeLetters_116 rfl rfl ck_12 (by decide) fl_X11_56 rfl hs rfl ?_
  refine g_bipushN (n := 110) (pc' := 121) dX11_writeLetters_119 rfl (by decide) ?_
  refine g_aload_n (pc' := 122) dX11_writeLetters_121 rfl rfl ?_
  refine g_ifnonnullN (pc' := 125) dX11_writeLetters_122 rfl ?_
  refine g_iconstN (n := 0) (pc' := 126) dX11_writeLetters_125 rfl ?_
  refine g_goto (tgt := 133) dX11_writeLetters_126 (by decide) ?_
  refine g_invV (pc' := 136) (cx_setLetter hok hs (u := 110) (by decide) _) dX11_writeLetters_133 rfl rfl ck_6 rfl ml_X11_461 im_X5_setLetter sl_X5_setLetter in_X5 co_X5_setLetter pd_X5_setLetter rfl (by omega) (by decide) ⟨by decide, by decide⟩ (Nat.le_of_ble_eq_true rfl) ?_
  rintro _ h8 ⟨rfl, q8⟩ -
  have hc := hc.lw q8.1
  have hs := hc.s
  refine g_aload_n (pc' := 137) dX11_writeLetters_136 rfl rfl ?_
  refine g_getS (pc' := 140) (k := 14) (b := (7, 0)) dX11_writeLetters_137 rfl rfl ck_12 (by decide) fl_X11_56 rfl hs rfl ?_
  refine g_bipushN (n := 121) (pc' := 142) dX11_writeLetters_140 rfl (by decide) ?_
  refine g_aload_n (pc' := 143) dX11_writeLetters_142 rfl rfl ?_
  refine g_getIv (v := m 126 (f)) (pc' := 146) (k := 1) dX11_writeLetters_143 rfl rfl ck_2 (by decide) fl_X11_471 rfl (hc.f1 (f := f) (by omega)) ?_
  refine g_invV (pc' := 149) (cx_setLetter hok hs (u := 121) (by decide) _) dX11_writeLetters_146 rfl rfl ck_6 rfl ml_X11_461 im_X5_setLetter sl_X5_setLetter in_X5 co_X5_setLetter pd_X5_setLetter rfl (by omega) (by decide) ⟨by decide, by decide⟩ (Nat.le_of_ble_eq_true rfl) ?_
  rintro _ h9 ⟨rfl, q9⟩ -
  have hc := hc.lw q9.1
  have hs := hc.s
  refine g_aload_n (pc' := 150) dX11_writeLetters_149 rfl rfl ?_
  refine g_getS (pc' := 153) (k := 14) (b := (7, 0)) dX11_writeLetters_150 rfl rfl ck_12 (by decide) fl_X11_56 rfl hs rfl ?_
  refine g_bipushN (n := 101) (pc' := 155) dX11_writeLetters_153 rfl (by decide) ?_
  refine g_aload_n (pc' := 156) dX11_writeLetters_155 rfl rfl ?_
  refine g_getIv (v := m 127 (f)) (pc' := 159) (k := 2) dX11_writeLetters_156 rfl rfl ck_2 (by decide) fl_X11_474 rfl (hc.f2 (f := f) (by omega)) ?_
  refine g_invV (pc' := 162) (cx_setLetter hok hs (u := 101) (by decide) _) dX11_writeLetters_159 rfl rfl ck_6 rfl ml_X11_461 im_X5_setLetter sl_X5_setLetter in_X5 co_X5_setLetter pd_X5_setLetter rfl (by omega) (by decide) ⟨by decide, by decide⟩ (Nat.le_of_ble_eq_true rfl) ?_
  rintro _ h10 ⟨rfl, q10⟩ -
  have hc := hc.lw q10.1
  have hs := hc.s
  refine g_aload_n (pc' := 163) dX11_writeLetters_162 rfl rfl ?_
  refine g_getS (pc' := 166) (k := 14) (b := (7, 0)) dX11_writeLetters_163 rfl rfl ck_12 (by decide) fl_X11_56 rfl hs rfl ?_
  refine g_bipushN (n := 118) (pc' := 168) dX11_writeLetters_166 rfl (by decide) ?_
  refine g_aload_n (pc' := 169) dX11_writeLetters_168 rfl rfl ?_
  refine g_getIv (v := m 128 (f)) (pc' := 172) (k := 3) dX11_writeLetters_169 rfl rfl ck_2 (by decide) fl_X11_477 rfl (hc.f3 (f := f) (by omega)) ?_
  refine g_invV (pc' := 175) (cx_setLetter hok hs (u := 118) (by decide) _) dX11_writeLetters_172 rfl rfl ck_6 rfl ml_X11_461 im_X5_setLetter sl_X5_setLetter in_X5 co_X5_setLetter pd_X5_setLetter rfl (by omega) (by decide) ⟨by decide, by decide⟩ (Nat.le_of_ble_eq_true rfl) ?_
  rintro _ h11 ⟨rfl, q11⟩ -
  have hc := hc.lw q11.1
  have hs := hc.s
  refine g_aload_n (pc' := 176) dX11_writeLetters_175 rfl rfl ?_
  refine g_getS (pc' := 179) (k := 14) (b := (7, 0)) dX11_writeLetters_176 rfl rfl ck_12 (by decide) fl_X11_56 rfl hs rfl ?_
  refine g_bipushN (n := 104) (pc' := 181) dX11_writeLetters_179 rfl (by decide) ?_
  refine g_aload_n (pc' := 182) dX11_writeLetters_181 rfl rfl ?_
  refine g_aload_n (pc' := 183) dX11_writeLetters_182 rfl rfl ?_
  refine g_invV (pc' := 186) (cx_toysHeldBy hok hc hw hx (f := f) (by omega)) dX11_writeLetters_183 rfl rfl ck_12 rfl ml_X11_451 im_X11_toysHeldBy sl_X11_toysHeldBy in_X11 co_X11_toysHeldBy pd_X11_toysHeldBy rfl (by omega) (by decide) ⟨by decide, by decide⟩ (Nat.le_of_ble_eq_true rfl) ?_
  rintro _ _ ⟨rfl, rfl⟩ -
  refine g_invV (pc' := 189) (cx_setLetter hok hs (u := 104) (by decide) _) dX11_writeLetters_186 rfl rfl ck_6 rfl ml_X11_461 im_X5_setLetter sl_X5_setLetter in_X5 co_X5_setLetter pd_X5_setLetter rfl (by omega) (by decide) ⟨by decide, by decide⟩ (Nat.le_of_ble_eq_true rfl) ?_
  rintro _ h12 ⟨rfl, q12⟩ -
  have hc := hc.lw q12.1
  have hs := hc.s
  refine g_aload_n (pc' := 190) dX11_writeLetters_189 rfl rfl ?_
  refine g_getS (pc' := 193) (k := 14) (b := (7, 0)) dX11_writeLetters_190 rfl rfl ck_12 (by decide) fl_X11_56 rfl hs rfl ?_
  refine g_bipushN (n := 100) (pc' := 195) dX11_writeLetters_193 rfl (by decide) ?_
  refine g_aload_n (pc' := 196) dX11_writeLetters_195 rfl rfl ?_
  refine g_getIv (v := m 1 2) (pc' := 199) (k := 0) dX11_writeLetters_196 rfl rfl ck_12 (by decide) fl_X11_95 rfl (hc.c1.1) ?_
  refine g_invV (pc' := 202) (cx_setLetter hok hs (u := 100) (by decide) _) dX11_writeLetters_199 rfl rfl ck_6 rfl ml_X11_461 im_X5_setLetter sl_X5_setLetter in_X5 co_X5_setLetter pd_X5_setLetter rfl (by omega) (by decide) ⟨by decide, by decide⟩ (Nat.le_of_ble_eq_true rfl) ?_
  rintro _ h13 ⟨rfl, q13⟩ -
  have hc := hc.lw q13.1
  have hs := hc.s
  refine g_aload_n (pc' := 203) dX11_writeLetters_202 rfl rfl ?_
  refine g_getS (pc' := 206) (k := 14) (b := (7, 0)) dX11_writeLetters_203 rfl rfl ck_12 (by decide) fl_X11_56 rfl hs rfl ?_
  refine g_bipushN (n := 115) (pc' := 208) dX11_writeLetters_206 rfl (by decide) ?_
  refine g_aload_n (pc' := 209) dX11_writeLetters_208 rfl rfl ?_
  refine g_getIv (v := nI (nW m)) (pc' := 212) (k := 0) dX11_writeLetters_209 rfl rfl ck_12 (by decide) fl_X11_95 rfl (hc.c1.1.trans hw.w.1) ?_
  refine g_sipushN (n := 365) (pc' := 215) dX11_writeLetters_212 rfl (by decide) ?_
  refine g_iremN (pc' := 216) dX11_writeLetters_215 rfl (by omega) (by omega) (by omega) ?_
  refine g_invV (pc' := 219) (cx_setLetter hok hs (u := 115) (by decide) _) dX11_writeLetters_216 rfl rfl ck_6 rfl ml_X11_461 im_X5_setLetter sl_X5_setLetter in_X5 co_X5_setLetter pd_X5_setLetter rfl (by omega) (by decide) ⟨by decide, by decide⟩ (Nat.le_of_ble_eq_true rfl) ?_
  rintro _ h14 ⟨rfl, q14⟩ -
  have hc := hc.lw q14.1
  have hs := hc.s
  refine g_aload_n (pc' := 220) dX11_writeLetters_219 rfl rfl ?_
  refine g_getS (pc' := 223) (k := 14) (b := (7, 0)) dX11_writeLetters_220 rfl rfl ck_12 (by decide) fl_X11_56 rfl hs rfl ?_
  refine g_bipushN (n := 108) (pc' := 225) dX11_writeLetters_223 rfl (by decide) ?_
  refine g_iload (pc' := 227) dX11_writeLetters_225 rfl rfl ?_
  refine g_invV (pc' := 230) (cx_setLetter hok hs (u := 108) (by decide) _) dX11_writeLetters_227 rfl rfl ck_6 rfl ml_X11_461 im_X5_setLetter sl_X5_setLetter in_X5 co_X5_setLetter pd_X5_setLetter rfl (by omega) (by decide) ⟨by decide, by decide⟩ (Nat.le_of_ble_eq_true rfl) ?_
  rintro _ h15 ⟨rfl, q15⟩ -
  have hc := hc.lw q15.1
  have hs := hc.s
  refine g_aload_n (pc' := 231) dX11_writeLetters_230 rfl rfl ?_
  refine g_getS (pc' := 234) (k := 14) (b := (7, 0)) dX11_writeLetters_231 rfl rfl ck_12 (by decide) fl_X11_56 rfl hs rfl ?_
  refine g_bipushN (n := 113) (pc' := 236) dX11_writeLetters_234 rfl (by decide) ?_
  refine g_aload_n (pc' := 237) dX11_writeLetters_236 rfl rfl ?_
  refine g_aload_n (pc' := 238) dX11_writeLetters_237 rfl rfl ?_
  refine g_getIv (v := nI (k)) (pc' := 241) (k := 0) dX11_writeLetters_238 rfl rfl ck_3 (by decide) fl_X11_116 rfl (hc.k0 (k := k) (by omega)) ?_
  refine g_aload_n (pc' := 242) dX11_writeLetters_241 rfl rfl ?_
  refine g_getIv (v := m 1 2) (pc' := 245) (k := 0) dX11_writeLetters_242 rfl rfl ck_12 (by decide) fl_X11_95 rfl (hc.c1.1) ?_
  refine g_invV (pc' := 248) (cx_daysWaited hok hc hw (f := f) (k := k) (by omega) (by omega) _) dX11_writeLetters_245 rfl rfl ck_2 rfl ml_X11_480 im_X1_daysWaited sl_X1_daysWaited in_X1 co_X1_daysWaited pd_X1_daysWaited rfl (by omega) (by decide) ⟨by decide, by decide⟩ (Nat.le_of_ble_eq_true rfl) ?_
  rintro _ _ ⟨rfl, rfl⟩ -
  refine g_invV (pc' := 251) (cx_setLetter hok hs (u := 113) (by decide) _) dX11_writeLetters_248 rfl rfl ck_6 rfl ml_X11_461 im_X5_setLetter sl_X5_setLetter in_X5 co_X5_setLetter pd_X5_setLetter rfl (by omega) (by decide) ⟨by decide, by decide⟩ (Nat.le_of_ble_eq_true rfl) ?_
  rintro _ h16 ⟨rfl, q16⟩ -
  have hc := hc.lw q16.1
  have hs := hc.s
  refine g_aload_n (pc' := 252) dX11_writeLetters_251 rfl rfl ?_
  refine g_getS (pc' := 255) (k := 14) (b := (7, 0)) dX11_writeLetters_252 rfl rfl ck_12 (by decide) fl_X11_56 rfl hs rfl ?_
  refine g_bipushN (n := 99) (pc' := 257) dX11_writeLetters_255 rfl (by decide) ?_
  refine g_aload_n (pc' := 258) dX11_writeLetters_257 rfl rfl ?_
  refine g_aload_n (pc' := 259) dX11_writeLetters_258 rfl rfl ?_
  refine g_invV (pc' := 262) (cx_waitingFor hok hc hw (k := k) (by omega)) dX11_writeLetters_259 rfl rfl ck_12 rfl ml_X11_347 im_X11_waitingFor sl_X11_waitingFor in_X11 co_X11_waitingFor pd_X11_waitingFor rfl (by omega) (by decide) ⟨by decide, by decide⟩ (Nat.le_of_ble_eq_true rfl) ?_
  rintro _ _ ⟨rfl, rfl⟩ -
  refine g_invV (pc' := 265) (cx_setLetter hok hs (u := 99) (by decide) _) dX11_writeLetters_262 rfl rfl ck_6 rfl ml_X11_461 im_X5_setLetter sl_X5_setLetter in_X5 co_X5_setLetter pd_X5_setLetter rfl (by omega) (by decide) ⟨by decide, by decide⟩ (Nat.le_of_ble_eq_true rfl) ?_
  rintro _ h17 ⟨rfl, q17⟩ -
  have hc := hc.lw q17.1
  have hs := hc.s
  refine g_vret dX11_writeLetters_265 rfl (by decide) (by decide) ?_
  refine ⟨rfl, ((((((((((((((((q1.1).tr q2.1).tr q3.1).tr q4.1).tr q5.1).tr q6.1).tr q7.1).tr q8.1).tr q9.1).tr q10.1).tr q11.1).tr q12.1).tr q13.1).tr q14.1).tr q15.1).tr q16.1).tr q17.1, ?_⟩
  intro l hl
  rcases hl with rfl | rfl | rfl | rfl | rfl | rfl | rfl | rfl | rfl | rfl | rfl | rfl | rfl | rfl | rfl | rfl | rfl
  · exact (q17.2.2 10 (by decide)).trans ((q16.2.2 10 (by decide)).trans ((q15.2.2 10 (by decide)).trans ((q14.2.2 10 (by decide)).trans ((q13.2.2 10 (by decide)).trans ((q12.2.2 10 (by decide)).trans ((q11.2.2 10 (by decide)).trans ((q10.2.2 10 (by decide)).trans ((q9.2.2 10 (by decide)).trans ((q8.2.2 10 (by decide)).trans ((q7.2.2 10 (by decide)).trans ((q6.2.2 10 (by decide)).trans ((q5.2.2 10 (by decide)).trans ((q4.2.2 10 (by decide)).trans ((q3.2.2 10 (by decide)).trans ((q2.2.2 10 (by decide)).trans (q1.2.1))))))))))))))))
  · exact (q17.2.2 0 (by decide)).trans ((q16.2.2 0 (by decide)).trans ((q15.2.2 0 (by decide)).trans ((q14.2.2 0 (by decide)).trans ((q13.2.2 0 (by decide)).trans ((q12.2.2 0 (by decide)).trans ((q11.2.2 0 (by decide)).trans ((q10.2.2 0 (by decide)).trans ((q9.2.2 0 (by decide)).trans ((q8.2.2 0 (by decide)).trans ((q7.2.2 0 (by decide)).trans ((q6.2.2 0 (by decide)).trans ((q5.2.2 0 (by decide)).trans ((q4.2.2 0 (by decide)).trans ((q3.2.2 0 (by decide)).trans (q2.2.1)))))))))))))))
  · exact (q17.2.2 15 (by decide)).trans ((q16.2.2 15 (by decide)).trans ((q15.2.2 15 (by decide)).trans ((q14.2.2 15 (by decide)).trans ((q13.2.2 15 (by decide)).trans ((q12.2.2 15 (by decide)).trans ((q11.2.2 15 (by decide)).trans ((q10.2.2 15 (by decide)).trans ((q9.2.2 15 (by decide)).trans ((q8.2.2 15 (by decide)).trans ((q7.2.2 15 (by decide)).trans ((q6.2.2 15 (by decide)).trans ((q5.2.2 15 (by decide)).trans ((q4.2.2 15 (by decide)).trans (q3.2.1))))))))))))))
  · exact (q17.2.2 25 (by decide)).trans ((q16.2.2 25 (by decide)).trans ((q15.2.2 25 (by decide)).trans ((q14.2.2 25 (by decide)).trans ((q13.2.2 25 (by decide)).trans ((q12.2.2 25 (by decide)).trans ((q11.2.2 25 (by decide)).trans ((q10.2.2 25 (by decide)).trans ((q9.2.2 25 (by decide)).trans ((q8.2.2 25 (by decide)).trans ((q7.2.2 25 (by decide)).trans ((q6.2.2 25 (by decide)).trans ((q5.2.2 25 (by decide)).trans (q4.2.1)))))))))))))
  · exact (q17.2.2 22 (by decide)).trans ((q16.2.2 22 (by decide)).trans ((q15.2.2 22 (by decide)).trans ((q14.2.2 22 (by decide)).trans ((q13.2.2 22 (by decide)).trans ((q12.2.2 22 (by decide)).trans ((q11.2.2 22 (by decide)).trans ((q10.2.2 22 (by decide)).trans ((q9.2.2 22 (by decide)).trans ((q8.2.2 22 (by decide)).trans ((q7.2.2 22 (by decide)).trans ((q6.2.2 22 (by decide)).trans (q5.2.1))))))))))))
  · exact (q17.2.2 12 (by decide)).trans ((q16.2.2 12 (by decide)).trans ((q15.2.2 12 (by decide)).trans ((q14.2.2 12 (by decide)).trans ((q13.2.2 12 (by decide)).trans ((q12.2.2 12 (by decide)).trans ((q11.2.2 12 (by decide)).trans ((q10.2.2 12 (by decide)).trans ((q9.2.2 12 (by decide)).trans ((q8.2.2 12 (by decide)).trans ((q7.2.2 12 (by decide)).trans (q6.2.1)))))))))))
  · exact (q17.2.2 19 (by decide)).trans ((q16.2.2 19 (by decide)).trans ((q15.2.2 19 (by decide)).trans ((q14.2.2 19 (by decide)).trans ((q13.2.2 19 (by decide)).trans ((q12.2.2 19 (by decide)).trans ((q11.2.2 19 (by decide)).trans ((q10.2.2 19 (by decide)).trans ((q9.2.2 19 (by decide)).trans ((q8.2.2 19 (by decide)).trans (q7.2.1))))))))))
  · exact (q17.2.2 13 (by decide)).trans ((q16.2.2 13 (by decide)).trans ((q15.2.2 13 (by decide)).trans ((q14.2.2 13 (by decide)).trans ((q13.2.2 13 (by decide)).trans ((q12.2.2 13 (by decide)).trans ((q11.2.2 13 (by decide)).trans ((q10.2.2 13 (by decide)).trans ((q9.2.2 13 (by decide)).trans (q8.2.1)))))))))
  · exact (q17.2.2 24 (by decide)).trans ((q16.2.2 24 (by decide)).trans ((q15.2.2 24 (by decide)).trans ((q14.2.2 24 (by decide)).trans ((q13.2.2 24 (by decide)).trans ((q12.2.2 24 (by decide)).trans ((q11.2.2 24 (by decide)).trans ((q10.2.2 24 (by decide)).trans (q9.2.1))))))))
  · exact (q17.2.2 4 (by decide)).trans ((q16.2.2 4 (by decide)).trans ((q15.2.2 4 (by decide)).trans ((q14.2.2 4 (by decide)).trans ((q13.2.2 4 (by decide)).trans ((q12.2.2 4 (by decide)).trans ((q11.2.2 4 (by decide)).trans (q10.2.1)))))))
  · exact (q17.2.2 21 (by decide)).trans ((q16.2.2 21 (by decide)).trans ((q15.2.2 21 (by decide)).trans ((q14.2.2 21 (by decide)).trans ((q13.2.2 21 (by decide)).trans ((q12.2.2 21 (by decide)).trans (q11.2.1))))))
  · exact (q17.2.2 7 (by decide)).trans ((q16.2.2 7 (by decide)).trans ((q15.2.2 7 (by decide)).trans ((q14.2.2 7 (by decide)).trans ((q13.2.2 7 (by decide)).trans (q12.2.1)))))
  · exact (q17.2.2 3 (by decide)).trans ((q16.2.2 3 (by decide)).trans ((q15.2.2 3 (by decide)).trans ((q14.2.2 3 (by decide)).trans (q13.2.1))))
  · exact (q17.2.2 18 (by decide)).trans ((q16.2.2 18 (by decide)).trans ((q15.2.2 18 (by decide)).trans (q14.2.1)))
  · exact (q17.2.2 11 (by decide)).trans ((q16.2.2 11 (by decide)).trans (q15.2.1))
  · exact (q17.2.2 16 (by decide)).trans (q16.2.1)
  · exact q17.2.1
