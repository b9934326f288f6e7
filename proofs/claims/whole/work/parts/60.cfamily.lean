theorem sh4_inv {n : Nat} {b : Ad} : ∀ {j : Nat}, sh 4 j n = some b → (j = 4 ∧ b = (29, n))
  | 0, q => nomatch (show (none : Option Ad) = some b from q)
  | 1, q => nomatch (show (none : Option Ad) = some b from q)
  | 2, q => nomatch (show (none : Option Ad) = some b from q)
  | 3, q => nomatch (show (none : Option Ad) = some b from q)
  | 4, q => ⟨rfl, (Option.some.inj (show some (29, n) = some b from q)).symm⟩
  | j + 5, q => nomatch (show (none : Option Ad) = some b from q)
theorem sh5_inv {n : Nat} {b : Ad} : ∀ {j : Nat}, sh 5 j n = some b → (j = 4 ∧ b = (30, n))
  | 0, q => nomatch (show (none : Option Ad) = some b from q)
  | 1, q => nomatch (show (none : Option Ad) = some b from q)
  | 2, q => nomatch (show (none : Option Ad) = some b from q)
  | 3, q => nomatch (show (none : Option Ad) = some b from q)
  | 4, q => ⟨rfl, (Option.some.inj (show some (30, n) = some b from q)).symm⟩
  | j + 5, q => nomatch (show (none : Option Ad) = some b from q)
theorem sh3_inv {n : Nat} {b : Ad} : ∀ {j : Nat}, sh 3 j n = some b → (j = 3 ∧ b = (26, n)) ∨ (j = 4 ∧ b = (27, n)) ∨ (j = 5 ∧ b = (28, n))
  | 0, q => nomatch (show (none : Option Ad) = some b from q)
  | 1, q => nomatch (show (none : Option Ad) = some b from q)
  | 2, q => nomatch (show (none : Option Ad) = some b from q)
  | 3, q => Or.inl ⟨rfl, (Option.some.inj (show some (26, n) = some b from q)).symm⟩
  | 4, q => Or.inr (Or.inl ⟨rfl, (Option.some.inj (show some (27, n) = some b from q)).symm⟩)
  | 5, q => Or.inr (Or.inr (⟨rfl, (Option.some.inj (show some (28, n) = some b from q)).symm⟩))
  | j + 6, q => nomatch (show (none : Option Ad) = some b from q)
theorem sh29 (j n : Nat) : sh 29 j n = none := rfl
theorem sh30 (j n : Nat) : sh 30 j n = none := rfl
theorem sh26 (j n : Nat) : sh 26 j n = none := rfl
theorem sh27 (j n : Nat) : sh 27 j n = none := rfl
theorem sh28 (j n : Nat) : sh 28 j n = none := rfl
theorem fa_fr (h : Hp) (k : Nat) (n a p z : Int32) : Fr (NK [4, 29] k) h (faH (nH h (4, k)) k n a p z) := by
  have s2 : NK [4, 29] k (4, k) := ⟨by simp, rfl⟩
  have s24 : NK [4, 29] k (29, k) := ⟨by simp, rfl⟩
  exact (((((((((Fr.rf _ h).nH s2).wI s2).wI s2).wI s2).wI s2).nH s24).wR s2)).wN s24 8
theorem fa_v (h : Hp) (k : Nat) (n a p z : Int32) : (faH (nH h (4, k)) k n a p z).1 (4, k) 0 = n ∧ (faH (nH h (4, k)) k n a p z).1 (4, k) 1 = a ∧ (faH (nH h (4, k)) k n a p z).1 (4, k) 2 = p ∧ (faH (nH h (4, k)) k n a p z).1 (4, k) 3 = z ∧ (faH (nH h (4, k)) k n a p z).1 (4, k) 5 = 0 ∧ (faH (nH h (4, k)) k n a p z).1 (4, k) 6 = 0 ∧ (∀ j, j < 8 → (faH (nH h (4, k)) k n a p z).1 (29, k) j = -1) ∧ (faH (nH h (4, k)) k n a p z).2.1 (4, k) 4 = some (29, k) := by
  refine ⟨?_, ?_, ?_, ?_, ?_, ?_, fun j hj => ?_, ?_⟩
  · unfold faH; rw [wN_off _ _ _ _ (ad_ne (show (4 : Nat) ≠ 29 by decide))]; simp [wI, wR, nH, upd, va_up]
  · unfold faH; rw [wN_off _ _ _ _ (ad_ne (show (4 : Nat) ≠ 29 by decide))]; simp [wI, wR, nH, upd, va_up]
  · unfold faH; rw [wN_off _ _ _ _ (ad_ne (show (4 : Nat) ≠ 29 by decide))]; simp [wI, wR, nH, upd, va_up]
  · unfold faH; rw [wN_off _ _ _ _ (ad_ne (show (4 : Nat) ≠ 29 by decide))]; simp [wI, wR, nH, upd, va_up]
  · unfold faH; rw [wN_off _ _ _ _ (ad_ne (show (4 : Nat) ≠ 29 by decide))]; simp [wI, wR, nH, upd, va_up]
  · unfold faH; rw [wN_off _ _ _ _ (ad_ne (show (4 : Nat) ≠ 29 by decide))]; simp [wI, wR, nH, upd, va_up]
  · have q := wN_at (wR (nH (wI (wI (wI (wI (nH h (4, k)) (4, k) 0 n) (4, k) 1 a) (4, k) 2 p) (4, k) 3 z) (29, k)) (4, k) 4 (some (29, k))) (29, k) 0 (fun _ => (-1 : Int32)) 8 hj
    rw [Nat.zero_add] at q
    exact q
  · unfold faH; rw [wN_2]; simp [wI, wR, nH, upd, va_up]
theorem lastF_new {m : St} (hx : Wx m) (hF : nF m ≤ 10) : ∀ n, n ≤ nA m → lastF m (nF m) n = 0
  | 0, _ => rfl
  | n + 1, q => by
    have z : ¬ (¬ m 178 n = 0 ∧ m 176 n = nI (nF m)) := fun y => by
      obtain ⟨g, hg, e⟩ := hx.ac n (by omega) y.1
      rw [e, nI_eq (by omega) (by omega)] at y
      omega
    rw [show lastF m (nF m) (n + 1) = lastF m (nF m) n from cif_f z]
    exact lastF_new hx hF n (by omega)
theorem cnt_none {p : Nat → Prop} : ∀ {n : Nat}, (∀ k, k < n → ¬ p k) → cnt p n = 0
  | 0, _ => rfl
  | n + 1, q => by rw [cnt_f (q n (Nat.lt_succ_self n)), cnt_none (n := n) (fun k hk => q k (by omega))]
theorem fam_end {m : St} {h h2 : Hp} {a p z : Int32} (hc : Cp m h) (hw : Wf m) (hx : Wx m) (hF8 : nF m < 10) (l2 : LsA h2 2 (nF m + 1) 4) (f2 : Fr (SK 2 [] 0) (faH (nH h (4, nF m)) (nF m) (nI (nF m)) a p z) h2) : some (vI (nI (nF m))) = some (vI (nI (nF m), stU (stU (stU (stU m 126 (nF m) a) 127 (nF m) p) 128 (nF m) z) 1 5 (nI (nF m + 1))).1) ∧ Cp (nI (nF m), stU (stU (stU (stU m 126 (nF m) a) 127 (nF m) p) 128 (nF m) z) 1 5 (nI (nF m + 1))).2 h2 ∧ mo h2 = mo h := by
  have frT : Fr (SK 2 [4, 29] (nF m)) h h2 := (fa_fr h (nF m) (nI (nF m)) a p z).two f2
  have g2 : ∀ s j, s = 4 ∨ s = 29 → h2.1 (s, j) = (faH (nH h (4, nF m)) (nF m) (nI (nF m)) a p z).1 (s, j) ∧ h2.2.1 (s, j) = (faH (nH h (4, nF m)) (nF m) (nI (nF m)) a p z).2.1 (s, j) ∧ h2.2.2 (s, j) = (faH (nH h (4, nF m)) (nF m) (nI (nF m)) a p z).2.2 (s, j) := fun s j hs => f2 (s, j) (nS (Or.inl (by omega)) (Or.inl (by omega)) (Or.inl (by simp)))
  have kv := fa_v h (nF m) (nI (nF m)) a p z
  have hz : ∀ q ∈ [4, 29], q = 2 ∨ q = 3 ∨ q = 4 ∨ q = 5 ∨ (24 ≤ q ∧ q ≤ 30) := by decide
  have ha : ∀ q ∈ [4, 29], q < 61 ∧ q ≠ 13 := by decide
  have eK : nF (stU (stU (stU (stU m 126 (nF m) a) 127 (nF m) p) 128 (nF m) z) 1 5 (nI (nF m + 1))) = nF m + 1 := nI_clamp (by omega)
  have e1 : ∀ s f, s = 126 ∧ f = a ∨ s = 127 ∧ f = p ∨ s = 128 ∧ f = z → ∀ j, (stU (stU (stU (stU m 126 (nF m) a) 127 (nF m) p) 128 (nF m) z) 1 5 (nI (nF m + 1))) s j = if j = nF m then f else m s j := by
    rintro s f (⟨rfl, rfl⟩ | ⟨rfl, rfl⟩ | ⟨rfl, rfl⟩) j <;> simp [stU_at]
  have e129 : (stU (stU (stU (stU m 126 (nF m) a) 127 (nF m) p) 128 (nF m) z) 1 5 (nI (nF m + 1))) 129 = m 129 := rfl
  have e186 : (stU (stU (stU (stU m 126 (nF m) a) 127 (nF m) p) 128 (nF m) z) 1 5 (nI (nF m + 1))) 186 = m 186 := rfl
  have old : ∀ s j, j ≠ nF m → s ≠ 13 → s < 61 → h2.1 (s, j) = h.1 (s, j) ∧ h2.2.1 (s, j) = h.2.1 (s, j) ∧ h2.2.2 (s, j) = h.2.2 (s, j) := fun s j hj hs h6 => frT (s, j) (nS (Or.inl hs) (Or.inl h6) (Or.inr hj))
  have k8 : C8 (stU (stU (stU (stU m 126 (nF m) a) 127 (nF m) p) 128 (nF m) z) 1 5 (nI (nF m + 1))) h2 := by
    refine ⟨?_, fun u hu => ?_, fun u hu => ?_⟩
    · rw [eK]
      refine l2.ls fun j hj => ?_
      rw [(old 4 j (by omega) (by decide) (by decide)).2.2]
      exact hc.c8.1.2.2.2.1 j (by omega)
    · rw [eK] at hu
      rw [e1 126 a (by simp), e1 127 p (by simp), e1 128 z (by simp), e129, e186]
      by_cases y : u = nF m
      · subst y
        have q := hx.zf (nF m) (Nat.le_refl _)
        simp only [if_true, (g2 4 (nF m) (by simp)).1, (g2 29 (nF m) (by simp)).1]
        exact ⟨⟨kv.1, kv.2.1, kv.2.2.1, kv.2.2.2.1, kv.2.2.2.2.1.trans q.1.symm⟩, fun j hj => (kv.2.2.2.2.2.2.1 j hj).trans (q.2 j hj).symm⟩
      · simp only [if_neg y, (old 4 u y (by decide) (by decide)).1, (old 29 u y (by decide) (by decide)).1]
        exact hc.c8.2.1 u (by omega)
    · rw [eK] at hu
      rw [(old 29 u (by omega) (by decide) (by decide)).2.2]
      exact hc.c8.2.2 u (by omega)
  have eA : nA (stU (stU (stU (stU m 126 (nF m) a) 127 (nF m) p) 128 (nF m) z) 1 5 (nI (nF m + 1))) = nA m := rfl
  have k11 : C11 (stU (stU (stU (stU m 126 (nF m) a) 127 (nF m) p) 128 (nF m) z) 1 5 (nI (nF m + 1))) h2 := by
    have lf : ∀ f, lastF (stU (stU (stU (stU m 126 (nF m) a) 127 (nF m) p) 128 (nF m) z) 1 5 (nI (nF m + 1))) f (nA m) = lastF m f (nA m) := fun f => lastF_congr (m := m) (m' := stU (stU (stU (stU m 126 (nF m) a) 127 (nF m) p) 128 (nF m) z) 1 5 (nI (nF m + 1))) rfl rfl rfl _
    refine ⟨fun f hf => ?_, fun w hw4 => ?_⟩
    · rw [eA, lf]
      rw [eK] at hf
      by_cases y : f = nF m
      · subst y
        rw [(g2 4 (nF m) (by simp)).1, lastF_new hx hw.f.2 _ (Nat.le_refl _)]
        exact kv.2.2.2.2.2.1
      · rw [(old 4 f y (by decide) (by decide)).1]
        exact hc.c11.1 f (by omega)
    · rw [(frT.s 23 (by decide) (by decide) (by decide) 0).1, hc.c11.2 w hw4]
      unfold fgv
      rw [eK, eA, smN_s]
      have q : cnt (fgP (stU (stU (stU (stU m 126 (nF m) a) 127 (nF m) p) 128 (nF m) z) 1 5 (nI (nF m + 1))) w (nF m)) (nA m) = 0 := cnt_none fun i hi z => by
        obtain ⟨g, hg, e⟩ := hx.ac i hi z.1.1
        have e2 : m 176 i = nI (nF m) := z.1.2
        rw [e, nI_eq (by omega) (by omega)] at e2
        omega
      rw [q, Nat.add_zero]
      have e : ∀ f, fgP (stU (stU (stU (stU m 126 (nF m) a) 127 (nF m) p) 128 (nF m) z) 1 5 (nI (nF m + 1))) w f = fgP m w f := fun f => by
        funext i
        unfold fgP
        rw [lastF_congr (m := m) (m' := stU (stU (stU (stU m 126 (nF m) a) 127 (nF m) p) 128 (nF m) z) 1 5 (nI (nF m + 1))) rfl rfl rfl i]
        rfl
      simp only [e]
  have hn : ∀ s ∈ [4, 29], ∀ j q, sh s j (nF m) = some q → h2.2.1 (s, nF m) j = some q := by
    intro s hs j q e
    simp only [List.mem_cons, List.not_mem_nil, or_false] at hs
    rcases hs with rfl | rfl
    · obtain ⟨rfl, rfl⟩ := sh4_inv e
      rw [(g2 4 (nF m) (by simp)).2.1]; exact kv.2.2.2.2.2.2.2
    · rw [sh29] at e; cases e
  refine ⟨rfl, ?_, mo_same (fun q hq => (frT q ?_).1)⟩
  · exact hc.fr frT hz hn (hc.c5.fr frT (by decide) (by decide) (by decide) (by decide) ha rfl rfl rfl rfl rfl rfl rfl rfl) (hc.c6.fr frT (by decide) (by decide) (by decide) (by decide) (by decide) ha rfl rfl rfl rfl rfl rfl rfl rfl rfl rfl rfl rfl) (hc.c7.fr frT (by decide) (by decide) (by decide) rfl rfl rfl rfl rfl) k8 (hc.c9.fr frT (by decide) (by decide) (by decide) ha rfl rfl rfl rfl rfl rfl rfl) k11 rfl rfl rfl rfl rfl rfl rfl rfl rfl rfl rfl rfl rfl rfl rfl rfl rfl rfl rfl rfl rfl
  · rintro (⟨y, -⟩ | ⟨y1, y2, -⟩ | ⟨y, -⟩)
    · rw [y] at hq; exact hq rfl
    · rcases (show q.1 = 61 ∨ q.1 = 62 ∨ q.1 = 63 by omega) with e | e | e <;> (rw [e] at hq; exact hq rfl)
    · simp only [List.mem_cons, List.not_mem_nil, or_false] at y
      rcases y with e | e <;> (rw [e] at hq; exact hq rfl)
set_option maxRecDepth 4000 in
theorem cx_family {E : En} (hok : EOK E) {h : Hp} {m : St} (hc : Cp m h) (hw : Wf m) (hx : Wx m) (a : Int32) (p : Int32) (z : Int32) : Call E m_X11_family 5 3 25 [vR TH, vI a, vI p, vI z] h (fun r h' => r = some (vI (sFamily m a p z).1) ∧ Cp (sFamily m a p z).2 h' ∧ mo h' = mo h) := by
  have hs := hc.s
  have hKb := hw.k.2
  have hTb := hw.t.2
  have hFb := hw.f.2
  have hRb := hw.r.2
  have hGb := hw.g.2
  have hAb := hw.a.2
  have hTlb := hw.tl.2
  have hNwb := hw.w.2
  refine Call.enter hok (by decide) (Nat.le_of_ble_eq_true rfl) ?_
  show G E m_X11_family 5 3 25 _ h 0 [some (vR TH), some (vI a), some (vI p), some (vI z), none, none] [] h 0 0
  refine g_iload_n (pc' := 1) dX11_family_0 rfl rfl ?_
  refine g_iconstN (n := 0) (pc' := 2) dX11_family_1 rfl ?_
  refine g_bipushN (n := 15) (pc' := 4) dX11_family_2 rfl (by decide) ?_
  refine g_invS (pc' := 7) (cx_within hok _ _ _) dX11_family_4 rfl ml_X11_99 st_X11_within in_X11 co_X11_within pd_X11_within rfl (by omega) (by decide) ⟨by decide, by decide⟩ (Nat.le_of_ble_eq_true rfl) ?_
  rintro _ _ ⟨rfl, rfl⟩ -
  refine g_ifB_eq (tgt := 33) (pc' := 10) dX11_family_7 rfl (by decide) (fun c7 => ?_) (fun c7 => ?_)
  ·
    refine g_iconstN (n := 0) (pc' := 34) dX11_family_33 rfl ?_
    refine g_istore (pc' := 36) dX11_family_34 rfl (by decide) rfl ?_
    try simp only [List.set]
    refine g_iload (pc' := 38) dX11_family_36 rfl rfl ?_
    refine g_if_eqN (tgt := 53) (pc' := 41) dX11_family_38 rfl (by decide) (by decide) (fun _ => ?_) (fun q => False.elim (by revert q; decide))
    refine g_iconst (v := -1) (pc' := 54) dX11_family_53 rfl (by decide) ?_
    refine g_iret dX11_family_54 rfl (by decide) (by decide) ?_
    have e : sFamily m a p z = (-1, m) := cif_f (fun z => c7 z.2.1)
    rw [e]
    exact ⟨rfl, hc, rfl⟩
  ·
    refine g_iload_n (pc' := 11) dX11_family_10 rfl rfl ?_
    refine g_iconstN (n := 0) (pc' := 12) dX11_family_11 rfl ?_
    refine g_bipushN (n := 9) (pc' := 14) dX11_family_12 rfl (by decide) ?_
    refine g_invS (pc' := 17) (cx_within hok _ _ _) dX11_family_14 rfl ml_X11_99 st_X11_within in_X11 co_X11_within pd_X11_within rfl (by omega) (by decide) ⟨by decide, by decide⟩ (Nat.le_of_ble_eq_true rfl) ?_
    rintro _ _ ⟨rfl, rfl⟩ -
    refine g_ifB_eq (tgt := 33) (pc' := 20) dX11_family_17 rfl (by decide) (fun c17 => ?_) (fun c17 => ?_)
    ·
      refine g_iconstN (n := 0) (pc' := 34) dX11_family_33 rfl ?_
      refine g_istore (pc' := 36) dX11_family_34 rfl (by decide) rfl ?_
      try simp only [List.set]
      refine g_iload (pc' := 38) dX11_family_36 rfl rfl ?_
      refine g_if_eqN (tgt := 53) (pc' := 41) dX11_family_38 rfl (by decide) (by decide) (fun _ => ?_) (fun q => False.elim (by revert q; decide))
      refine g_iconst (v := -1) (pc' := 54) dX11_family_53 rfl (by decide) ?_
      refine g_iret dX11_family_54 rfl (by decide) (by decide) ?_
      have e : sFamily m a p z = (-1, m) := cif_f (fun z => c17 z.2.2.1)
      rw [e]
      exact ⟨rfl, hc, rfl⟩
    ·
      refine g_iload_n (pc' := 21) dX11_family_20 rfl rfl ?_
      refine g_iconstN (n := 0) (pc' := 22) dX11_family_21 rfl ?_
      refine g_iconstN (n := 4) (pc' := 23) dX11_family_22 rfl ?_
      refine g_invS (pc' := 26) (cx_within hok _ _ _) dX11_family_23 rfl ml_X11_99 st_X11_within in_X11 co_X11_within pd_X11_within rfl (by omega) (by decide) ⟨by decide, by decide⟩ (Nat.le_of_ble_eq_true rfl) ?_
      rintro _ _ ⟨rfl, rfl⟩ -
      refine g_ifB_eq (tgt := 33) (pc' := 29) dX11_family_26 rfl (by decide) (fun c26 => ?_) (fun c26 => ?_)
      ·
        refine g_iconstN (n := 0) (pc' := 34) dX11_family_33 rfl ?_
        refine g_istore (pc' := 36) dX11_family_34 rfl (by decide) rfl ?_
        try simp only [List.set]
        refine g_iload (pc' := 38) dX11_family_36 rfl rfl ?_
        refine g_if_eqN (tgt := 53) (pc' := 41) dX11_family_38 rfl (by decide) (by decide) (fun _ => ?_) (fun q => False.elim (by revert q; decide))
        refine g_iconst (v := -1) (pc' := 54) dX11_family_53 rfl (by decide) ?_
        refine g_iret dX11_family_54 rfl (by decide) (by decide) ?_
        have e : sFamily m a p z = (-1, m) := cif_f (fun z => c26 z.2.2.2)
        rw [e]
        exact ⟨rfl, hc, rfl⟩
      ·
        refine g_iconstN (n := 1) (pc' := 30) dX11_family_29 rfl ?_
        refine g_goto (tgt := 34) dX11_family_30 (by decide) ?_
        refine g_istore (pc' := 36) dX11_family_34 rfl (by decide) rfl ?_
        try simp only [List.set]
        refine g_iload (pc' := 38) dX11_family_36 rfl rfl ?_
        refine g_if_eqN (tgt := 53) (pc' := 41) dX11_family_38 rfl (by decide) (by decide) (fun q => False.elim (by revert q; decide)) (fun _ => ?_)
        refine g_aload_n (pc' := 42) dX11_family_41 rfl rfl ?_
        refine g_getS (pc' := 45) (k := 12) (b := (13, 2)) dX11_family_42 rfl rfl ck_12 (by decide) fl_X11_38 rfl hs rfl ?_
        refine g_invV (pc' := 48) (ls_size hok hc.c8.1) dX11_family_45 rfl rfl ck_0 rfl ml_X11_103 im_Jx4a65c_size_8abf5 sl_Jx4a65c_size_8abf5 in_Jx4a65c co_Jx4a65c_size_8abf5 pd_Jx4a65c_size_8abf5 rfl (by omega) (by decide) ⟨by decide, by decide⟩ (Nat.le_of_ble_eq_true rfl) ?_
        rintro _ _ ⟨rfl, rfl⟩ -
        refine g_bipushN (n := 10) (pc' := 50) dX11_family_48 rfl (by decide) ?_
        refine g_icmp_ltN (tgt := 55) (pc' := 53) dX11_family_50 rfl (by decide) (by omega) (by omega) (fun c50 => ?_) (fun c50 => ?_)
        ·
          refine g_new (4, nF m) (hc.c8.1.2.2.2.1 _ (Nat.le_refl _)) (pc' := 58) dX11_family_55 rfl rfl ck_2 cl_X11_139 it_X1 in_X1 (by decide) (by decide) ?_
          refine g_dup (pc' := 59) dX11_family_58 rfl rfl ?_
          refine g_aload_n (pc' := 60) dX11_family_59 rfl rfl ?_
          refine G.live (fun hTH => ?_)
          refine g_getR (pc' := 63) (k := 12) (r := some (13, 2)) dX11_family_60 rfl rfl ck_12 (by decide) fl_X11_38 rfl (hc.s 0 12 0 _ rfl hTH) ?_
          refine g_invV (pc' := 66) (ls_sizeV hok (n := nF m) (by exact hc.c8.1.1)) dX11_family_63 rfl rfl ck_0 rfl ml_X11_103 im_Jx4a65c_size_8abf5 sl_Jx4a65c_size_8abf5 in_Jx4a65c co_Jx4a65c_size_8abf5 pd_Jx4a65c_size_8abf5 rfl (by omega) (by decide) ⟨by decide, by decide⟩ (Nat.le_of_ble_eq_true rfl) ?_
          rintro _ _ ⟨rfl, rfl⟩ -
          refine g_iload_n (pc' := 67) dX11_family_66 rfl rfl ?_
          refine g_iload_n (pc' := 68) dX11_family_67 rfl rfl ?_
          refine g_iload_n (pc' := 69) dX11_family_68 rfl rfl ?_
          refine g_invI (pc' := 72) (cx_familyInit hok (f := nF m) (by exact hc.c8.2.2 _ (Nat.le_refl _)) _ _ _ _) dX11_family_69 rfl ml_X11_141 im_X1_init in_X1 co_X1_init rfl rfl pd_X1_init rfl (by omega) (by decide) ⟨by decide, by decide⟩ (Nat.le_of_ble_eq_true rfl) ?_
          rintro _ _ ⟨rfl, rfl⟩ -
          refine g_astore (pc' := 74) dX11_family_72 rfl (by decide) rfl ?_
          try simp only [List.set]
          refine g_aload_n (pc' := 75) dX11_family_74 rfl rfl ?_
          refine G.live (fun hTH => ?_)
          refine g_getR (pc' := 78) (k := 12) (r := some (13, 2)) dX11_family_75 rfl rfl ck_12 (by decide) fl_X11_38 rfl (hc.s 0 12 0 _ rfl hTH) ?_
          refine g_aload (pc' := 80) dX11_family_78 rfl rfl ?_
          have lX : LsA (faH (nH h (4, nF m)) (nF m) (nI (nF m)) a p z) 2 (nF m) 4 := hc.c8.1.a.nk (fa_fr h (nF m) (nI (nF m)) a p z) (by decide)
          rcases (show (nF m) = 0 ∨ 0 < (nF m) by omega) with e0 | e1
          ·
            refine g_invV (pc' := 83) (li_first hok (i := 2) (v := (4, nF m)) rfl (by exact hc.e.1) (by exact lX.2.2.2.1 e0) (by exact lX.2.1.trans (by rw [e0]; exact congrArg some (dN_0 2))) (by exact lX.1.trans (by rw [e0])) rfl ck_2 wd_famc) dX11_family_80 rfl rfl ck_0 rfl ml_X11_112 im_Jx4a65c_add_9ea2d sl_Jx4a65c_add_9ea2d in_Jx4a65c co_Jx4a65c_add_9ea2d pd_Jx4a65c_add_9ea2d rfl (by omega) (by decide) ⟨by decide, by decide⟩ (Nat.le_of_ble_eq_true rfl) ?_
            rintro _ h2 ⟨rfl, e2⟩ -
            obtain ⟨l2, f2⟩ : LsA h2 2 (nF m + 1) 4 ∧ Fr (SK 2 [] 0) (faH (nH h (4, nF m)) (nF m) (nI (nF m)) a p z) h2 := by rw [← e2]; exact first_post lX e0
            clear e2
            refine g_pop (pc' := 84) dX11_family_83 rfl rfl ?_
            refine g_aload (pc' := 86) dX11_family_84 rfl rfl ?_
            refine g_getIv (v := nI (nF m)) (pc' := 89) (k := 0) dX11_family_86 rfl rfl ck_2 (by decide) fl_X11_144 rfl ((congrFun (f2 (4, nF m) (nS (Or.inl (by decide)) (Or.inl (by decide)) (Or.inl (by simp)))).1 0).trans (fa_v _ _ _ _ _ _).1) ?_
            refine g_iret dX11_family_89 rfl (by decide) (by decide) ?_
            have e : sFamily m a p z = (nI (nF m), stU (stU (stU (stU m 126 (nF m) a) 127 (nF m) p) 128 (nF m) z) 1 5 (nI (nF m + 1))) := cif_t ⟨by omega, c7, c17, c26⟩
            rw [e]
            exact fam_end hc hw hx (by omega) l2 f2
          ·
            have eD : dN 2 (nF m) = (61, 2) := dN_1 (by omega) (by omega)
            refine g_invV (pc' := 83) (li_add hok (i := 2) (n := (nF m)) (v := (4, nF m)) (N := 10) (D := (61, 2)) (by exact lX.2.1.trans (congrArg some eD)) rfl (by decide) (by omega) (by exact lX.1) rfl ck_2 wd_famc) dX11_family_80 rfl rfl ck_0 rfl ml_X11_112 im_Jx4a65c_add_9ea2d sl_Jx4a65c_add_9ea2d in_Jx4a65c co_Jx4a65c_add_9ea2d pd_Jx4a65c_add_9ea2d rfl (by omega) (by decide) ⟨by decide, by decide⟩ (Nat.le_of_ble_eq_true rfl) ?_
            rintro _ h2 ⟨rfl, e2⟩ -
            obtain ⟨l2, f2⟩ : LsA h2 2 (nF m + 1) 4 ∧ Fr (SK 2 [] 0) (faH (nH h (4, nF m)) (nF m) (nI (nF m)) a p z) h2 := by rw [← e2]; exact add_post (N := 10) lX (by omega) eD (dN_1 (by omega) (by omega)) (Or.inl rfl) (by omega)
            clear e2
            refine g_pop (pc' := 84) dX11_family_83 rfl rfl ?_
            refine g_aload (pc' := 86) dX11_family_84 rfl rfl ?_
            refine g_getIv (v := nI (nF m)) (pc' := 89) (k := 0) dX11_family_86 rfl rfl ck_2 (by decide) fl_X11_144 rfl ((congrFun (f2 (4, nF m) (nS (Or.inl (by decide)) (Or.inl (by decide)) (Or.inl (by simp)))).1 0).trans (fa_v _ _ _ _ _ _).1) ?_
            refine g_iret dX11_family_89 rfl (by decide) (by decide) ?_
            have e : sFamily m a p z = (nI (nF m), stU (stU (stU (stU m 126 (nF m) a) 127 (nF m) p) 128 (nF m) z) 1 5 (nI (nF m + 1))) := cif_t ⟨by omega, c7, c17, c26⟩
            rw [e]
            exact fam_end hc hw hx (by omega) l2 f2
        ·
          refine g_iconst (v := -1) (pc' := 54) dX11_family_53 rfl (by decide) ?_
          refine g_iret dX11_family_54 rfl (by decide) (by decide) ?_
          have e : sFamily m a p z = (-1, m) := cif_f (fun z => z.1 (by omega))
          rw [e]
          exact ⟨rfl, hc, rfl⟩
