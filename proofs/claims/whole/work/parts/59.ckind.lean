def NK (ss : List Nat) (n : Nat) (b : Ad) : Prop := b.1 ∈ ss ∧ b.2 = n
theorem ls_sizeV {E : En} (hok : EOK E) {h : Hp} {i n : Nat} (e : h.1 (13, i) 2 = nI n) : Fn E m_Jx4a65c_size_8abf5 0 [vR (13, i)] h (vI (nI n)) := by
  have q := li_size hok (h := h) (i := i)
  rw [e] at q
  exact q
theorem LsA.nk {h h' : Hp} {i n s k : Nat} {ss : List Nat} (l : LsA h i n s) (fr : Fr (NK ss k) h h') (ha : ∀ q ∈ ss, q < 61 ∧ q ≠ 13) : LsA h' i n s := l.fr fr (by
  rintro b (rfl | rfl | rfl | rfl | rfl) ⟨z, -⟩ <;> (have := ha _ z; simp at this))
theorem Fr.two {h x h' : Hp} {i k : Nat} {ss : List Nat} (f : Fr (NK ss k) h x) (g : Fr (SK i [] 0) x h') : Fr (SK i ss k) h h' := (f.up (fun q y => Or.inr (Or.inr y))).tr (g.up (fun q y => y.elim Or.inl (fun y => y.elim (fun y => Or.inr (Or.inl y)) (fun y => absurd y.1 (by simp)))))
theorem ki_fr (h : Hp) (k : Nat) (n a p z mk b : Int32) : Fr (NK [2, 24, 25] k) h (kiH (nH h (2, k)) k n a p z mk b) := by
  have s2 : NK [2, 24, 25] k (2, k) := ⟨by simp, rfl⟩
  have s24 : NK [2, 24, 25] k (24, k) := ⟨by simp, rfl⟩
  have s25 : NK [2, 24, 25] k (25, k) := ⟨by simp, rfl⟩
  exact (((((((((((Fr.rf _ h).nH s2).wI s2).wI s2).wI s2).wI s2).wI s2).wI s2).nH s24).wR s2).nH s25).wR s2
theorem ki_v (h : Hp) (k : Nat) (n a p z mk b : Int32) : (kiH h k n a p z mk b).1 (2, k) 0 = n ∧ (kiH h k n a p z mk b).1 (2, k) 1 = a ∧ (kiH h k n a p z mk b).1 (2, k) 2 = p ∧ (kiH h k n a p z mk b).1 (2, k) 3 = z ∧ (kiH h k n a p z mk b).1 (2, k) 4 = mk ∧ (kiH h k n a p z mk b).1 (2, k) 5 = b ∧ (∀ j, (kiH h k n a p z mk b).1 (24, k) j = 0) ∧ (∀ j, (kiH h k n a p z mk b).1 (25, k) j = 0) ∧ (kiH h k n a p z mk b).2.1 (2, k) 6 = some (24, k) ∧ (kiH h k n a p z mk b).2.1 (2, k) 7 = some (25, k) := by
  refine ⟨?_, ?_, ?_, ?_, ?_, ?_, fun j => ?_, fun j => ?_, ?_, ?_⟩ <;> simp [kiH, wI, wR, nH, upd, va_up]
theorem sh2_inv {n : Nat} {b : Ad} : ∀ {j : Nat}, sh 2 j n = some b → (j = 6 ∧ b = (24, n)) ∨ (j = 7 ∧ b = (25, n))
  | 0, q => nomatch (show (none : Option Ad) = some b from q)
  | 1, q => nomatch (show (none : Option Ad) = some b from q)
  | 2, q => nomatch (show (none : Option Ad) = some b from q)
  | 3, q => nomatch (show (none : Option Ad) = some b from q)
  | 4, q => nomatch (show (none : Option Ad) = some b from q)
  | 5, q => nomatch (show (none : Option Ad) = some b from q)
  | 6, q => Or.inl ⟨rfl, (Option.some.inj (show some (24, n) = some b from q)).symm⟩
  | 7, q => Or.inr ⟨rfl, (Option.some.inj (show some (25, n) = some b from q)).symm⟩
  | j + 8, q => nomatch (show (none : Option Ad) = some b from q)
theorem sh24 (j n : Nat) : sh 24 j n = none := rfl
theorem sh25 (j n : Nat) : sh 25 j n = none := rfl
theorem kind_end {m : St} {h h2 : Hp} {a p z k b : Int32} (hc : Cp m h) (hw : Wf m) (hx : Wx m) (hK8 : nK m < 8) (l2 : LsA h2 0 (nK m + 1) 2) (f2 : Fr (SK 0 [] 0) (kiH (nH h (2, nK m)) (nK m) (nI (nK m)) a p z k b) h2) : some (vI (nI (nK m))) = some (vI (nI (nK m), stU (stU (stU (stU (stU (stU m 108 (nK m) a) 109 (nK m) p) 110 (nK m) z) 111 (nK m) k) 112 (nK m) b) 1 3 (nI (nK m + 1))).1) ∧ Cp (nI (nK m), stU (stU (stU (stU (stU (stU m 108 (nK m) a) 109 (nK m) p) 110 (nK m) z) 111 (nK m) k) 112 (nK m) b) 1 3 (nI (nK m + 1))).2 h2 ∧ mo h2 = mo h := by
  have frT : Fr (SK 0 [2, 24, 25] (nK m)) h h2 := (ki_fr h (nK m) (nI (nK m)) a p z k b).two f2
  have g2 : ∀ s j, s = 2 ∨ s = 24 ∨ s = 25 → h2.1 (s, j) = (kiH (nH h (2, nK m)) (nK m) (nI (nK m)) a p z k b).1 (s, j) ∧ h2.2.1 (s, j) = (kiH (nH h (2, nK m)) (nK m) (nI (nK m)) a p z k b).2.1 (s, j) ∧ h2.2.2 (s, j) = (kiH (nH h (2, nK m)) (nK m) (nI (nK m)) a p z k b).2.2 (s, j) := fun s j hs => f2 (s, j) (nS (Or.inl (by omega)) (Or.inl (by omega)) (Or.inl (by simp)))
  have kv := ki_v (nH h (2, nK m)) (nK m) (nI (nK m)) a p z k b
  have hz : ∀ q ∈ [2, 24, 25], q = 2 ∨ q = 3 ∨ q = 4 ∨ q = 5 ∨ (24 ≤ q ∧ q ≤ 30) := by decide
  have ha : ∀ q ∈ [2, 24, 25], q < 61 ∧ q ≠ 13 := by decide
  have eK : nK (stU (stU (stU (stU (stU (stU m 108 (nK m) a) 109 (nK m) p) 110 (nK m) z) 111 (nK m) k) 112 (nK m) b) 1 3 (nI (nK m + 1))) = nK m + 1 := nI_clamp (by omega)
  have e1 : ∀ s f, s = 108 ∧ f = a ∨ s = 109 ∧ f = p ∨ s = 110 ∧ f = z ∨ s = 111 ∧ f = k ∨ s = 112 ∧ f = b → ∀ j, (stU (stU (stU (stU (stU (stU m 108 (nK m) a) 109 (nK m) p) 110 (nK m) z) 111 (nK m) k) 112 (nK m) b) 1 3 (nI (nK m + 1))) s j = if j = nK m then f else m s j := by
    rintro s f (⟨rfl, rfl⟩ | ⟨rfl, rfl⟩ | ⟨rfl, rfl⟩ | ⟨rfl, rfl⟩ | ⟨rfl, rfl⟩) j <;> simp [stU_at]
  have old : ∀ s j, j ≠ nK m → s ≠ 13 → s < 61 → h2.1 (s, j) = h.1 (s, j) ∧ h2.2.1 (s, j) = h.2.1 (s, j) ∧ h2.2.2 (s, j) = h.2.2 (s, j) := fun s j hj hs h6 => frT (s, j) (nS (Or.inl hs) (Or.inl h6) (Or.inr hj))
  have k5 : C5 (stU (stU (stU (stU (stU (stU m 108 (nK m) a) 109 (nK m) p) 110 (nK m) z) 111 (nK m) k) 112 (nK m) b) 1 3 (nI (nK m + 1))) h2 := by
    refine ⟨?_, fun u hu => ?_, fun u hu => ?_⟩
    · rw [eK]
      refine l2.ls fun j hj => ?_
      rw [(old 2 j (by omega) (by decide) (by decide)).2.2]
      exact hc.c5.1.2.2.2.1 j (by omega)
    · rw [eK] at hu
      rw [e1 108 a (by simp), e1 109 p (by simp), e1 110 z (by simp), e1 111 k (by simp), e1 112 b (by simp)]
      by_cases y : u = nK m
      · subst y
        have q := fun j (hj : j < 6) => hx.zk (nK m) j (Nat.le_refl _) hj
        simp only [if_true, (g2 2 (nK m) (by simp)).1, (g2 24 (nK m) (by simp)).1, (g2 25 (nK m) (by simp)).1]
        exact ⟨⟨kv.1, kv.2.1, kv.2.2.1, kv.2.2.2.1, kv.2.2.2.2.1, kv.2.2.2.2.2.1⟩, fun j hj => (kv.2.2.2.2.2.2.1 j).trans (q j hj).1.symm, fun j hj => (kv.2.2.2.2.2.2.2.1 j).trans (q j hj).2.symm⟩
      · simp only [if_neg y, (old 2 u y (by decide) (by decide)).1, (old 24 u y (by decide) (by decide)).1, (old 25 u y (by decide) (by decide)).1]
        exact hc.c5.2.1 u (by omega)
    · rw [eK] at hu
      rw [(old 24 u (by omega) (by decide) (by decide)).2.2, (old 25 u (by omega) (by decide) (by decide)).2.2]
      exact hc.c5.2.2 u (by omega)
  have hn : ∀ s ∈ [2, 24, 25], ∀ j q, sh s j (nK m) = some q → h2.2.1 (s, nK m) j = some q := by
    intro s hs j q e
    simp only [List.mem_cons, List.not_mem_nil, or_false] at hs
    rcases hs with rfl | rfl | rfl
    · rcases sh2_inv e with ⟨rfl, rfl⟩ | ⟨rfl, rfl⟩
      · rw [(g2 2 (nK m) (by simp)).2.1]; exact kv.2.2.2.2.2.2.2.2.1
      · rw [(g2 2 (nK m) (by simp)).2.1]; exact kv.2.2.2.2.2.2.2.2.2
    · rw [sh24] at e; cases e
    · rw [sh25] at e; cases e
  refine ⟨rfl, ?_, mo_same (fun q hq => (frT q ?_).1)⟩
  · exact hc.fr frT hz hn k5 (hc.c6.fr frT (by decide) (by decide) (by decide) (by decide) (by decide) ha rfl rfl rfl rfl rfl rfl rfl rfl rfl rfl rfl rfl) (hc.c7.fr frT (by decide) (by decide) (by decide) rfl rfl rfl rfl rfl) (hc.c8.fr frT (by decide) (by decide) (by decide) ha rfl rfl rfl rfl rfl rfl) (hc.c9.fr frT (by decide) (by decide) (by decide) ha rfl rfl rfl rfl rfl rfl rfl) (hc.c11.same rfl rfl rfl rfl rfl rfl (fun f => by rw [(frT.s 4 (by decide) (by decide) (by decide) f).1]) (frT.s 23 (by decide) (by decide) (by decide) 0).1) rfl rfl rfl rfl rfl rfl rfl rfl rfl rfl rfl rfl rfl rfl rfl rfl rfl rfl rfl rfl rfl
  · rintro (⟨y, -⟩ | ⟨y1, y2, -⟩ | ⟨y, -⟩)
    · rw [y] at hq; exact hq rfl
    · rcases (show q.1 = 61 ∨ q.1 = 62 ∨ q.1 = 63 by omega) with e | e | e <;> (rw [e] at hq; exact hq rfl)
    · simp only [List.mem_cons, List.not_mem_nil, or_false] at y
      rcases y with e | e | e <;> (rw [e] at hq; exact hq rfl)
set_option maxRecDepth 4000 in
theorem cx_kind {E : En} (hok : EOK E) {h : Hp} {m : St} (hc : Cp m h) (hw : Wf m) (hx : Wx m) (a : Int32) (p : Int32) (z : Int32) (k : Int32) (b : Int32) : Call E m_X11_kind 5 4 30 [vR TH, vI a, vI p, vI z, vI k, vI b] h (fun r h' => r = some (vI (sKind m a p z k b).1) ∧ Cp (sKind m a p z k b).2 h' ∧ mo h' = mo h) := by
  have hs := hc.s
  have hKb := hw.k.2
  have hTb := hw.t.2
  have hFb := hw.f.2
  have hRb := hw.r.2
  have hGb := hw.g.2
  have hAb := hw.a.2
  have hTlb := hw.tl.2
  have hNwb := hw.w.2
  refine Call.enter hok (by decide) (Nat.le_of_ble_eq_true rfl) ?_
  show G E m_X11_kind 5 4 30 _ h 0 [some (vR TH), some (vI a), some (vI p), some (vI z), some (vI k), some (vI b), none, none] [] h 0 0
  refine g_iload_n (pc' := 1) dX11_kind_0 rfl rfl ?_
  refine g_iconstN (n := 0) (pc' := 2) dX11_kind_1 rfl ?_
  refine g_bipushN (n := 15) (pc' := 4) dX11_kind_2 rfl (by decide) ?_
  refine g_invS (pc' := 7) (cx_within hok _ _ _) dX11_kind_4 rfl ml_X11_99 st_X11_within in_X11 co_X11_within pd_X11_within rfl (by omega) (by decide) ⟨by decide, by decide⟩ (Nat.le_of_ble_eq_true rfl) ?_
  rintro _ _ ⟨rfl, rfl⟩ -
  refine g_ifB_eq (tgt := 57) (pc' := 10) dX11_kind_7 rfl (by decide) (fun c7 => ?_) (fun c7 => ?_)
  ·
    refine g_iconstN (n := 0) (pc' := 58) dX11_kind_57 rfl ?_
    refine g_istore (pc' := 60) dX11_kind_58 rfl (by decide) rfl ?_
    try simp only [List.set]
    refine g_iload (pc' := 62) dX11_kind_60 rfl rfl ?_
    refine g_if_eqN (tgt := 77) (pc' := 65) dX11_kind_62 rfl (by decide) (by decide) (fun _ => ?_) (fun q => False.elim (by revert q; decide))
    refine g_iconst (v := -1) (pc' := 78) dX11_kind_77 rfl (by decide) ?_
    refine g_iret dX11_kind_78 rfl (by decide) (by decide) ?_
    have e : sKind m a p z k b = (-1, m) := cif_f (fun z => c7 z.2.1)
    rw [e]
    exact ⟨rfl, hc, rfl⟩
  ·
    refine g_iload_n (pc' := 11) dX11_kind_10 rfl rfl ?_
    refine g_iconstN (n := 1) (pc' := 12) dX11_kind_11 rfl ?_
    refine g_sipushN (n := 20000) (pc' := 15) dX11_kind_12 rfl (by decide) ?_
    refine g_invS (pc' := 18) (cx_within hok _ _ _) dX11_kind_15 rfl ml_X11_99 st_X11_within in_X11 co_X11_within pd_X11_within rfl (by omega) (by decide) ⟨by decide, by decide⟩ (Nat.le_of_ble_eq_true rfl) ?_
    rintro _ _ ⟨rfl, rfl⟩ -
    refine g_ifB_eq (tgt := 57) (pc' := 21) dX11_kind_18 rfl (by decide) (fun c18 => ?_) (fun c18 => ?_)
    ·
      refine g_iconstN (n := 0) (pc' := 58) dX11_kind_57 rfl ?_
      refine g_istore (pc' := 60) dX11_kind_58 rfl (by decide) rfl ?_
      try simp only [List.set]
      refine g_iload (pc' := 62) dX11_kind_60 rfl rfl ?_
      refine g_if_eqN (tgt := 77) (pc' := 65) dX11_kind_62 rfl (by decide) (by decide) (fun _ => ?_) (fun q => False.elim (by revert q; decide))
      refine g_iconst (v := -1) (pc' := 78) dX11_kind_77 rfl (by decide) ?_
      refine g_iret dX11_kind_78 rfl (by decide) (by decide) ?_
      have e : sKind m a p z k b = (-1, m) := cif_f (fun z => c18 z.2.2.1)
      rw [e]
      exact ⟨rfl, hc, rfl⟩
    ·
      refine g_iload_n (pc' := 22) dX11_kind_21 rfl rfl ?_
      refine g_iconstN (n := 0) (pc' := 23) dX11_kind_22 rfl ?_
      refine g_bipushN (n := 9) (pc' := 25) dX11_kind_23 rfl (by decide) ?_
      refine g_invS (pc' := 28) (cx_within hok _ _ _) dX11_kind_25 rfl ml_X11_99 st_X11_within in_X11 co_X11_within pd_X11_within rfl (by omega) (by decide) ⟨by decide, by decide⟩ (Nat.le_of_ble_eq_true rfl) ?_
      rintro _ _ ⟨rfl, rfl⟩ -
      refine g_ifB_eq (tgt := 57) (pc' := 31) dX11_kind_28 rfl (by decide) (fun c28 => ?_) (fun c28 => ?_)
      ·
        refine g_iconstN (n := 0) (pc' := 58) dX11_kind_57 rfl ?_
        refine g_istore (pc' := 60) dX11_kind_58 rfl (by decide) rfl ?_
        try simp only [List.set]
        refine g_iload (pc' := 62) dX11_kind_60 rfl rfl ?_
        refine g_if_eqN (tgt := 77) (pc' := 65) dX11_kind_62 rfl (by decide) (by decide) (fun _ => ?_) (fun q => False.elim (by revert q; decide))
        refine g_iconst (v := -1) (pc' := 78) dX11_kind_77 rfl (by decide) ?_
        refine g_iret dX11_kind_78 rfl (by decide) (by decide) ?_
        have e : sKind m a p z k b = (-1, m) := cif_f (fun z => c28 z.2.2.2.1)
        rw [e]
        exact ⟨rfl, hc, rfl⟩
      ·
        refine g_iload (pc' := 33) dX11_kind_31 rfl rfl ?_
        refine g_iconstN (n := 0) (pc' := 34) dX11_kind_33 rfl ?_
        refine g_iconstN (n := 5) (pc' := 35) dX11_kind_34 rfl ?_
        refine g_invS (pc' := 38) (cx_within hok _ _ _) dX11_kind_35 rfl ml_X11_99 st_X11_within in_X11 co_X11_within pd_X11_within rfl (by omega) (by decide) ⟨by decide, by decide⟩ (Nat.le_of_ble_eq_true rfl) ?_
        rintro _ _ ⟨rfl, rfl⟩ -
        refine g_ifB_eq (tgt := 57) (pc' := 41) dX11_kind_38 rfl (by decide) (fun c38 => ?_) (fun c38 => ?_)
        ·
          refine g_iconstN (n := 0) (pc' := 58) dX11_kind_57 rfl ?_
          refine g_istore (pc' := 60) dX11_kind_58 rfl (by decide) rfl ?_
          try simp only [List.set]
          refine g_iload (pc' := 62) dX11_kind_60 rfl rfl ?_
          refine g_if_eqN (tgt := 77) (pc' := 65) dX11_kind_62 rfl (by decide) (by decide) (fun _ => ?_) (fun q => False.elim (by revert q; decide))
          refine g_iconst (v := -1) (pc' := 78) dX11_kind_77 rfl (by decide) ?_
          refine g_iret dX11_kind_78 rfl (by decide) (by decide) ?_
          have e : sKind m a p z k b = (-1, m) := cif_f (fun z => c38 z.2.2.2.2.1)
          rw [e]
          exact ⟨rfl, hc, rfl⟩
        ·
          refine g_iload (pc' := 43) dX11_kind_41 rfl rfl ?_
          refine g_iconstN (n := 1) (pc' := 44) dX11_kind_43 rfl ?_
          refine g_sipushN (n := 1000) (pc' := 47) dX11_kind_44 rfl (by decide) ?_
          refine g_invS (pc' := 50) (cx_within hok _ _ _) dX11_kind_47 rfl ml_X11_99 st_X11_within in_X11 co_X11_within pd_X11_within rfl (by omega) (by decide) ⟨by decide, by decide⟩ (Nat.le_of_ble_eq_true rfl) ?_
          rintro _ _ ⟨rfl, rfl⟩ -
          refine g_ifB_eq (tgt := 57) (pc' := 53) dX11_kind_50 rfl (by decide) (fun c50 => ?_) (fun c50 => ?_)
          ·
            refine g_iconstN (n := 0) (pc' := 58) dX11_kind_57 rfl ?_
            refine g_istore (pc' := 60) dX11_kind_58 rfl (by decide) rfl ?_
            try simp only [List.set]
            refine g_iload (pc' := 62) dX11_kind_60 rfl rfl ?_
            refine g_if_eqN (tgt := 77) (pc' := 65) dX11_kind_62 rfl (by decide) (by decide) (fun _ => ?_) (fun q => False.elim (by revert q; decide))
            refine g_iconst (v := -1) (pc' := 78) dX11_kind_77 rfl (by decide) ?_
            refine g_iret dX11_kind_78 rfl (by decide) (by decide) ?_
            have e : sKind m a p z k b = (-1, m) := cif_f (fun z => c50 z.2.2.2.2.2)
            rw [e]
            exact ⟨rfl, hc, rfl⟩
          ·
            refine g_iconstN (n := 1) (pc' := 54) dX11_kind_53 rfl ?_
            refine g_goto (tgt := 58) dX11_kind_54 (by decide) ?_
            refine g_istore (pc' := 60) dX11_kind_58 rfl (by decide) rfl ?_
            try simp only [List.set]
            refine g_iload (pc' := 62) dX11_kind_60 rfl rfl ?_
            refine g_if_eqN (tgt := 77) (pc' := 65) dX11_kind_62 rfl (by decide) (by decide) (fun q => False.elim (by revert q; decide)) (fun _ => ?_)
            refine g_aload_n (pc' := 66) dX11_kind_65 rfl rfl ?_
            refine g_getS (pc' := 69) (k := 10) (b := (13, 0)) dX11_kind_66 rfl rfl ck_12 (by decide) fl_X11_31 rfl hs rfl ?_
            refine g_invV (pc' := 72) (ls_size hok hc.c5.1) dX11_kind_69 rfl rfl ck_0 rfl ml_X11_103 im_Jx4a65c_size_8abf5 sl_Jx4a65c_size_8abf5 in_Jx4a65c co_Jx4a65c_size_8abf5 pd_Jx4a65c_size_8abf5 rfl (by omega) (by decide) ⟨by decide, by decide⟩ (Nat.le_of_ble_eq_true rfl) ?_
            rintro _ _ ⟨rfl, rfl⟩ -
            refine g_bipushN (n := 8) (pc' := 74) dX11_kind_72 rfl (by decide) ?_
            refine g_icmp_ltN (tgt := 79) (pc' := 77) dX11_kind_74 rfl (by decide) (by omega) (by omega) (fun c74 => ?_) (fun c74 => ?_)
            ·
              refine g_new (2, nK m) (hc.c5.1.2.2.2.1 _ (Nat.le_refl _)) (pc' := 82) dX11_kind_79 rfl rfl ck_3 cl_X11_107 it_X2 in_X2 (by decide) (by decide) ?_
              refine g_dup (pc' := 83) dX11_kind_82 rfl rfl ?_
              refine g_aload_n (pc' := 84) dX11_kind_83 rfl rfl ?_
              refine G.live (fun hTH => ?_)
              refine g_getR (pc' := 87) (k := 10) (r := some (13, 0)) dX11_kind_84 rfl rfl ck_12 (by decide) fl_X11_31 rfl (hc.s 0 10 0 _ rfl hTH) ?_
              refine g_invV (pc' := 90) (ls_sizeV hok (n := nK m) (by exact hc.c5.1.1)) dX11_kind_87 rfl rfl ck_0 rfl ml_X11_103 im_Jx4a65c_size_8abf5 sl_Jx4a65c_size_8abf5 in_Jx4a65c co_Jx4a65c_size_8abf5 pd_Jx4a65c_size_8abf5 rfl (by omega) (by decide) ⟨by decide, by decide⟩ (Nat.le_of_ble_eq_true rfl) ?_
              rintro _ _ ⟨rfl, rfl⟩ -
              refine g_iload_n (pc' := 91) dX11_kind_90 rfl rfl ?_
              refine g_iload_n (pc' := 92) dX11_kind_91 rfl rfl ?_
              refine g_iload_n (pc' := 93) dX11_kind_92 rfl rfl ?_
              refine g_iload (pc' := 95) dX11_kind_93 rfl rfl ?_
              refine g_iload (pc' := 97) dX11_kind_95 rfl rfl ?_
              refine g_invI (pc' := 100) (cx_kindInit hok (k := nK m) (by exact (hc.c5.2.2 _ (Nat.le_refl _)).1) (by exact (hc.c5.2.2 _ (Nat.le_refl _)).2) _ _ _ _ _ _) dX11_kind_97 rfl ml_X11_109 im_X2_init in_X2 co_X2_init rfl rfl pd_X2_init rfl (by omega) (by decide) ⟨by decide, by decide⟩ (Nat.le_of_ble_eq_true rfl) ?_
              rintro _ _ ⟨rfl, rfl⟩ -
              refine g_astore (pc' := 102) dX11_kind_100 rfl (by decide) rfl ?_
              try simp only [List.set]
              refine g_aload_n (pc' := 103) dX11_kind_102 rfl rfl ?_
              refine G.live (fun hTH => ?_)
              refine g_getR (pc' := 106) (k := 10) (r := some (13, 0)) dX11_kind_103 rfl rfl ck_12 (by decide) fl_X11_31 rfl (hc.s 0 10 0 _ rfl hTH) ?_
              refine g_aload (pc' := 108) dX11_kind_106 rfl rfl ?_
              have lX : LsA (kiH (nH h (2, nK m)) (nK m) (nI (nK m)) a p z k b) 0 (nK m) 2 := hc.c5.1.a.nk (ki_fr h (nK m) (nI (nK m)) a p z k b) (by decide)
              rcases (show (nK m) = 0 ∨ 0 < (nK m) by omega) with e0 | e1
              ·
                refine g_invV (pc' := 111) (li_first hok (i := 0) (v := (2, nK m)) rfl (by exact hc.e.1) (by exact lX.2.2.2.1 e0) (by exact lX.2.1.trans (by rw [e0]; exact congrArg some (dN_0 0))) (by exact lX.1.trans (by rw [e0])) rfl ck_3 wd_kinc) dX11_kind_108 rfl rfl ck_0 rfl ml_X11_112 im_Jx4a65c_add_9ea2d sl_Jx4a65c_add_9ea2d in_Jx4a65c co_Jx4a65c_add_9ea2d pd_Jx4a65c_add_9ea2d rfl (by omega) (by decide) ⟨by decide, by decide⟩ (Nat.le_of_ble_eq_true rfl) ?_
                rintro _ h2 ⟨rfl, e2⟩ -
                obtain ⟨l2, f2⟩ : LsA h2 0 (nK m + 1) 2 ∧ Fr (SK 0 [] 0) (kiH (nH h (2, nK m)) (nK m) (nI (nK m)) a p z k b) h2 := by rw [← e2]; exact first_post lX e0
                clear e2
                refine g_pop (pc' := 112) dX11_kind_111 rfl rfl ?_
                refine g_aload (pc' := 114) dX11_kind_112 rfl rfl ?_
                refine g_getIv (v := nI (nK m)) (pc' := 117) (k := 0) dX11_kind_114 rfl rfl ck_3 (by decide) fl_X11_116 rfl ((congrFun (f2 (2, nK m) (nS (Or.inl (by decide)) (Or.inl (by decide)) (Or.inl (by simp)))).1 0).trans (ki_v _ _ _ _ _ _ _ _).1) ?_
                refine g_iret dX11_kind_117 rfl (by decide) (by decide) ?_
                have e : sKind m a p z k b = (nI (nK m), stU (stU (stU (stU (stU (stU m 108 (nK m) a) 109 (nK m) p) 110 (nK m) z) 111 (nK m) k) 112 (nK m) b) 1 3 (nI (nK m + 1))) := cif_t ⟨by omega, c7, c18, c28, c38, c50⟩
                rw [e]
                exact kind_end hc hw hx (by omega) l2 f2
              ·
                have eD : dN 0 (nK m) = (61, 0) := dN_1 (by omega) (by omega)
                refine g_invV (pc' := 111) (li_add hok (i := 0) (n := (nK m)) (v := (2, nK m)) (N := 10) (D := (61, 0)) (by exact lX.2.1.trans (congrArg some eD)) rfl (by decide) (by omega) (by exact lX.1) rfl ck_3 wd_kinc) dX11_kind_108 rfl rfl ck_0 rfl ml_X11_112 im_Jx4a65c_add_9ea2d sl_Jx4a65c_add_9ea2d in_Jx4a65c co_Jx4a65c_add_9ea2d pd_Jx4a65c_add_9ea2d rfl (by omega) (by decide) ⟨by decide, by decide⟩ (Nat.le_of_ble_eq_true rfl) ?_
                rintro _ h2 ⟨rfl, e2⟩ -
                obtain ⟨l2, f2⟩ : LsA h2 0 (nK m + 1) 2 ∧ Fr (SK 0 [] 0) (kiH (nH h (2, nK m)) (nK m) (nI (nK m)) a p z k b) h2 := by rw [← e2]; exact add_post (N := 10) lX (by omega) eD (dN_1 (by omega) (by omega)) (Or.inl rfl) (by omega)
                clear e2
                refine g_pop (pc' := 112) dX11_kind_111 rfl rfl ?_
                refine g_aload (pc' := 114) dX11_kind_112 rfl rfl ?_
                refine g_getIv (v := nI (nK m)) (pc' := 117) (k := 0) dX11_kind_114 rfl rfl ck_3 (by decide) fl_X11_116 rfl ((congrFun (f2 (2, nK m) (nS (Or.inl (by decide)) (Or.inl (by decide)) (Or.inl (by simp)))).1 0).trans (ki_v _ _ _ _ _ _ _ _).1) ?_
                refine g_iret dX11_kind_117 rfl (by decide) (by decide) ?_
                have e : sKind m a p z k b = (nI (nK m), stU (stU (stU (stU (stU (stU m 108 (nK m) a) 109 (nK m) p) 110 (nK m) z) 111 (nK m) k) 112 (nK m) b) 1 3 (nI (nK m + 1))) := cif_t ⟨by omega, c7, c18, c28, c38, c50⟩
                rw [e]
                exact kind_end hc hw hx (by omega) l2 f2
            ·
              refine g_iconst (v := -1) (pc' := 78) dX11_kind_77 rfl (by decide) ?_
              refine g_iret dX11_kind_78 rfl (by decide) (by decide) ?_
              have e : sKind m a p z k b = (-1, m) := cif_f (fun z => z.1 (by omega))
              rw [e]
              exact ⟨rfl, hc, rfl⟩
