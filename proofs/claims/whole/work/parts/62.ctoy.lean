/-- gifts are for toys -/
def Wg (m : St) : Prop := ∀ g, g < nGf m → ∃ t : Nat, t < nT m ∧ m 167 g = nI t
theorem ty_fr (h : Hp) (t k : Nat) (n b y : Int32) : Fr (NK [3, 26, 27, 28] t) h (tyH (nH h (3, t)) t k n b y) := by
  have s3 : NK [3, 26, 27, 28] t (3, t) := ⟨by simp, rfl⟩
  have s26 : NK [3, 26, 27, 28] t (26, t) := ⟨by simp, rfl⟩
  have s27 : NK [3, 26, 27, 28] t (27, t) := ⟨by simp, rfl⟩
  have s28 : NK [3, 26, 27, 28] t (28, t) := ⟨by simp, rfl⟩
  exact (((((((((((((((Fr.rf _ h).nH s3).wI s3).wR s3).wI s3).nH s26).wF s26).wR s3).nH s27).wR s3).nH s28).wR s3).wI s3).wI s3).wI s3).wI s3
theorem ty_v (h : Hp) (t k : Nat) (n b y : Int32) (j : Nat) : (tyH (nH h (3, t)) t k n b y).1 (3, t) j = if j = 11 then y else if j = 9 then -1 else if j = 8 then -1 else if j = 7 then 0 else if j = 2 then b else if j = 0 then n else 0 := by
  simp [tyH, wI, wR, wF, nH, upd, va_up]
theorem ty_r (h : Hp) (t k : Nat) (n b y : Int32) : (tyH (nH h (3, t)) t k n b y).2.1 (3, t) 1 = some (2, k) ∧ (tyH (nH h (3, t)) t k n b y).2.1 (3, t) 3 = some (26, t) ∧ (tyH (nH h (3, t)) t k n b y).2.1 (3, t) 4 = some (27, t) ∧ (tyH (nH h (3, t)) t k n b y).2.1 (3, t) 5 = some (28, t) := by
  refine ⟨?_, ?_, ?_, ?_⟩ <;> simp [tyH, wI, wR, wF, nH, upd, va_up]
theorem ty_26 (h : Hp) (t k : Nat) (n b y : Int32) : (tyH (nH h (3, t)) t k n b y).1 (26, t) = h.1 (24, k) := by
  simp [tyH, wI, wR, wF, nH, upd, va_up]
theorem toy_end {m : St} {h h2 : Hp} {k : Nat} {b : Int32} (hc : Cp m h) (hw : Wf m) (hx : Wx m) (hg : Wg m) (hk : k < nK m) (hT : nT m < 16) (l2 : LsA h2 1 (nT m + 1) 3) (f2 : Fr (SK 1 [] 0) (tyH (nH h (3, nT m)) (nT m) k (nI (nT m)) b (m 1 2)) h2) : some (vI (nI (nT m))) = some (vI (nI (nT m), stU (stN (stToy m (nI k) b) 125 (6 * nT m) (fun s => m 113 (6 * k + s)) 6) 1 4 (nI (nT m + 1))).1) ∧ Cp (nI (nT m), stU (stN (stToy m (nI k) b) 125 (6 * nT m) (fun s => m 113 (6 * k + s)) 6) 1 4 (nI (nT m + 1))).2 h2 ∧ mo h2 = mo h := by
  have hK8 := hw.k.2
  have frT : Fr (SK 1 [3, 26, 27, 28] (nT m)) h h2 := (ty_fr h (nT m) k (nI (nT m)) b (m 1 2)).two f2
  have g2 : ∀ s j, s = 3 ∨ s = 26 ∨ s = 27 ∨ s = 28 → h2.1 (s, j) = (tyH (nH h (3, nT m)) (nT m) k (nI (nT m)) b (m 1 2)).1 (s, j) ∧ h2.2.1 (s, j) = (tyH (nH h (3, nT m)) (nT m) k (nI (nT m)) b (m 1 2)).2.1 (s, j) ∧ h2.2.2 (s, j) = (tyH (nH h (3, nT m)) (nT m) k (nI (nT m)) b (m 1 2)).2.2 (s, j) := fun s j hs => f2 (s, j) (nS (Or.inl (by omega)) (Or.inl (by omega)) (Or.inl (by simp)))
  have kr := ty_r h (nT m) k (nI (nT m)) b (m 1 2)
  have kv := ty_v h (nT m) k (nI (nT m)) b (m 1 2)
  have hz : ∀ q ∈ [3, 26, 27, 28], q = 2 ∨ q = 3 ∨ q = 4 ∨ q = 5 ∨ (24 ≤ q ∧ q ≤ 30) := by decide
  have ha : ∀ q ∈ [3, 26, 27, 28], q < 61 ∧ q ≠ 13 := by decide
  have eK : nT (stU (stN (stToy m (nI k) b) 125 (6 * nT m) (fun s => m 113 (6 * k + s)) 6) 1 4 (nI (nT m + 1))) = nT m + 1 := nI_clamp (by omega)
  have e0 : ∀ s, s ≠ 1 → s ≠ 125 → (stU (stN (stToy m (nI k) b) 125 (6 * nT m) (fun s => m 113 (6 * k + s)) 6) 1 4 (nI (nT m + 1))) s = stToy m (nI k) b s := fun s h1 h2 => by
    show (if s = 1 then _ else _) = _
    rw [if_neg h1, stN_s _ _ _ _ h2]
  have eS : ∀ s, s ≠ 1 → s ≠ 125 → s ≠ 115 → s ≠ 116 → s ≠ 118 → s ≠ 119 → s ≠ 120 → s ≠ 123 → (stU (stN (stToy m (nI k) b) 125 (6 * nT m) (fun s => m 113 (6 * k + s)) 6) 1 4 (nI (nT m + 1))) s = m s := fun s a1 a2 a3 a4 a5 a6 a7 a8 => by
    rw [e0 s a1 a2]
    unfold stToy stU
    rw [if_neg a8, if_neg a7, if_neg a6, if_neg a5, if_neg a4, if_neg a3]
  have e1j : ∀ j, j ≠ 4 → (stU (stN (stToy m (nI k) b) 125 (6 * nT m) (fun s => m 113 (6 * k + s)) 6) 1 4 (nI (nT m + 1))) 1 j = m 1 j := fun j hj => by
    show stU (stN (stToy m (nI k) b) 125 (6 * nT m) (fun s => m 113 (6 * k + s)) 6) 1 4 _ 1 j = _
    rw [stU_at, if_neg (fun z => hj z.2), stN_s _ _ _ _ (by decide)]
    rfl
  have eV : ∀ s f, s = 115 ∧ f = nI k ∨ s = 116 ∧ f = b ∨ s = 118 ∧ f = 0 ∨ s = 119 ∧ f = -1 ∨ s = 120 ∧ f = -1 ∨ s = 123 ∧ f = m 1 2 → ∀ j, (stU (stN (stToy m (nI k) b) 125 (6 * nT m) (fun s => m 113 (6 * k + s)) 6) 1 4 (nI (nT m + 1))) s j = if j = nT m then f else m s j := by
    rintro s f (⟨rfl, rfl⟩ | ⟨rfl, rfl⟩ | ⟨rfl, rfl⟩ | ⟨rfl, rfl⟩ | ⟨rfl, rfl⟩ | ⟨rfl, rfl⟩) j <;> (rw [e0 _ (by decide) (by decide)]; simp [stToy, stU_at])
  have e125 : ∀ u j, j < 6 → (stU (stN (stToy m (nI k) b) 125 (6 * nT m) (fun s => m 113 (6 * k + s)) 6) 1 4 (nI (nT m + 1))) 125 (6 * u + j) = if u = nT m then m 113 (6 * k + j) else m 125 (6 * u + j) := fun u j hj => by
    show stN (stToy m (nI k) b) 125 (6 * nT m) (fun s => m 113 (6 * k + s)) 6 125 (6 * u + j) = _
    by_cases y : u = nT m
    · subst y
      rw [if_pos rfl]
      exact stN_at _ 125 (6 * nT m) (fun s => m 113 (6 * k + s)) 6 hj
    · rw [if_neg y, stN_out _ _ _ _ 6 (by omega)]
      rfl
  have ekd : ∀ u, kd (stU (stN (stToy m (nI k) b) 125 (6 * nT m) (fun s => m 113 (6 * k + s)) 6) 1 4 (nI (nT m + 1))) u = if u = nT m then k else kd m u := fun u => by
    unfold kd
    rw [eV 115 (nI k) (by simp)]
    by_cases y : u = nT m
    · rw [if_pos y, if_pos y, nI_clamp (by omega)]
    · rw [if_neg y, if_neg y]
  have old : ∀ s j, j ≠ nT m → s ≠ 13 → s < 61 → h2.1 (s, j) = h.1 (s, j) ∧ h2.2.1 (s, j) = h.2.1 (s, j) ∧ h2.2.2 (s, j) = h.2.2 (s, j) := fun s j hj hs h6 => frT (s, j) (nS (Or.inl hs) (Or.inl h6) (Or.inr hj))
  have k6 : C6 (stU (stN (stToy m (nI k) b) 125 (6 * nT m) (fun s => m 113 (6 * k + s)) 6) 1 4 (nI (nT m + 1))) h2 := by
    refine ⟨?_, fun u hu => ?_, fun u hu => ?_⟩
    · rw [eK]
      refine l2.ls fun j hj => ?_
      rw [(old 3 j (by omega) (by decide) (by decide)).2.2]
      exact hc.c6.1.2.2.2.1 j (by omega)
    · rw [eK] at hu
      rw [ekd, eV 116 b (by simp), eV 118 0 (by simp), eV 119 (-1) (by simp), eV 120 (-1) (by simp), eV 123 (m 1 2) (by simp), eS 121 (by decide) (by decide) (by decide) (by decide) (by decide) (by decide) (by decide) (by decide), eS 117 (by decide) (by decide) (by decide) (by decide) (by decide) (by decide) (by decide) (by decide), eS 122 (by decide) (by decide) (by decide) (by decide) (by decide) (by decide) (by decide) (by decide), eS 124 (by decide) (by decide) (by decide) (by decide) (by decide) (by decide) (by decide) (by decide)]
      by_cases y : u = nT m
      · subst y
        obtain ⟨z1, z2, z3, z4⟩ := hx.zt (nT m) (Nat.le_refl _)
        refine ⟨?_, ?_, fun j hj => ?_⟩
        · rw [if_pos rfl, (g2 3 (nT m) (by simp)).2.1]
          exact kr.1
        · rw [(g2 3 (nT m) (by simp)).1, z1, z2, z3, z4]
          simp [kv]
        · rw [e125 _ j hj, if_pos rfl, (g2 26 (nT m) (by simp)).1, ty_26]
          exact (hc.c5.2.1 k hk).2.1 j hj
      · simp only [if_neg y, (old 3 u y (by decide) (by decide)).1, (old 3 u y (by decide) (by decide)).2.1, (old 26 u y (by decide) (by decide)).1]
        have a := hc.c6.2.1 u (by omega)
        exact ⟨a.1, a.2.1, fun j hj => by rw [e125 u j hj, if_neg y]; exact a.2.2 j hj⟩
    · rw [eK] at hu
      rw [(old 26 u (by omega) (by decide) (by decide)).2.2, (old 27 u (by omega) (by decide) (by decide)).2.2, (old 28 u (by omega) (by decide) (by decide)).2.2]
      exact hc.c6.2.2 u (by omega)
  have eG : nGf (stU (stN (stToy m (nI k) b) 125 (6 * nT m) (fun s => m 113 (6 * k + s)) 6) 1 4 (nI (nT m + 1))) = nGf m := by unfold nGf; rw [e1j 60 (by decide)]
  have k7 : C7 (stU (stN (stToy m (nI k) b) 125 (6 * nT m) (fun s => m 113 (6 * k + s)) 6) 1 4 (nI (nT m + 1))) h2 := by
    intro u hu
    rw [eK] at hu
    rw [eG, eS 167 (by decide) (by decide) (by decide) (by decide) (by decide) (by decide) (by decide) (by decide), eS 168 (by decide) (by decide) (by decide) (by decide) (by decide) (by decide) (by decide) (by decide), eS 169 (by decide) (by decide) (by decide) (by decide) (by decide) (by decide) (by decide) (by decide)]
    by_cases y : u = nT m
    · subst y
      refine ⟨0, by rw [(g2 3 (nT m) (by simp)).1, kv]; rfl, Nat.zero_le _, fun P => ⟨fun ⟨i, hi, _⟩ => absurd hi (Nat.not_lt_zero i), fun ⟨g, hg1, hg2, _⟩ => ?_⟩⟩
      obtain ⟨t, ht, e⟩ := hg g hg1
      rw [e, nI_eq (by omega) (by omega)] at hg2
      omega
    · rw [(old 3 u y (by decide) (by decide)).1, (old 27 u y (by decide) (by decide)).1, (old 28 u y (by decide) (by decide)).1]
      exact hc.c7 u (by omega)
  have hn : ∀ s ∈ [3, 26, 27, 28], ∀ j q, sh s j (nT m) = some q → h2.2.1 (s, nT m) j = some q := by
    intro s hs j q e
    simp only [List.mem_cons, List.not_mem_nil, or_false] at hs
    rcases hs with rfl | rfl | rfl | rfl
    · rw [(g2 3 (nT m) (by simp)).2.1]
      rcases sh3_inv e with ⟨rfl, rfl⟩ | ⟨rfl, rfl⟩ | ⟨rfl, rfl⟩
      · exact kr.2.1
      · exact kr.2.2.1
      · exact kr.2.2.2
    · rw [sh26] at e; cases e
    · rw [sh27] at e; cases e
    · rw [sh28] at e; cases e
  have eKn : nK (stU (stN (stToy m (nI k) b) 125 (6 * nT m) (fun s => m 113 (6 * k + s)) 6) 1 4 (nI (nT m + 1))) = nK m := by unfold nK; rw [e1j 3 (by decide)]
  have eRn : nR (stU (stN (stToy m (nI k) b) 125 (6 * nT m) (fun s => m 113 (6 * k + s)) 6) 1 4 (nI (nT m + 1))) = nR m := by unfold nR; rw [e1j 59 (by decide)]
  have eF : nF (stU (stN (stToy m (nI k) b) 125 (6 * nT m) (fun s => m 113 (6 * k + s)) 6) 1 4 (nI (nT m + 1))) = nF m := by unfold nF; rw [e1j 5 (by decide)]
  have eA : nA (stU (stN (stToy m (nI k) b) 125 (6 * nT m) (fun s => m 113 (6 * k + s)) 6) 1 4 (nI (nT m + 1))) = nA m := by unfold nA; rw [e1j 70 (by decide)]
  refine ⟨rfl, ?_, mo_same (fun q hq => (frT q ?_).1)⟩
  · exact hc.fr frT hz hn (hc.c5.fr frT (by decide) (by decide) (by decide) (by decide) ha (eS 108 (by decide) (by decide) (by decide) (by decide) (by decide) (by decide) (by decide) (by decide)) (eS 109 (by decide) (by decide) (by decide) (by decide) (by decide) (by decide) (by decide) (by decide)) (eS 110 (by decide) (by decide) (by decide) (by decide) (by decide) (by decide) (by decide) (by decide)) (eS 111 (by decide) (by decide) (by decide) (by decide) (by decide) (by decide) (by decide) (by decide)) (eS 112 (by decide) (by decide) (by decide) (by decide) (by decide) (by decide) (by decide) (by decide)) (eS 113 (by decide) (by decide) (by decide) (by decide) (by decide) (by decide) (by decide) (by decide)) (eS 114 (by decide) (by decide) (by decide) (by decide) (by decide) (by decide) (by decide) (by decide)) eKn) k6 k7 (hc.c8.fr frT (by decide) (by decide) (by decide) ha (eS 126 (by decide) (by decide) (by decide) (by decide) (by decide) (by decide) (by decide) (by decide)) (eS 127 (by decide) (by decide) (by decide) (by decide) (by decide) (by decide) (by decide) (by decide)) (eS 128 (by decide) (by decide) (by decide) (by decide) (by decide) (by decide) (by decide) (by decide)) (eS 129 (by decide) (by decide) (by decide) (by decide) (by decide) (by decide) (by decide) (by decide)) (eS 186 (by decide) (by decide) (by decide) (by decide) (by decide) (by decide) (by decide) (by decide)) eF) (hc.c9.fr frT (by decide) (by decide) (by decide) ha (eS 161 (by decide) (by decide) (by decide) (by decide) (by decide) (by decide) (by decide) (by decide)) (eS 162 (by decide) (by decide) (by decide) (by decide) (by decide) (by decide) (by decide) (by decide)) (eS 163 (by decide) (by decide) (by decide) (by decide) (by decide) (by decide) (by decide) (by decide)) (eS 164 (by decide) (by decide) (by decide) (by decide) (by decide) (by decide) (by decide) (by decide)) (eS 165 (by decide) (by decide) (by decide) (by decide) (by decide) (by decide) (by decide) (by decide)) (eS 166 (by decide) (by decide) (by decide) (by decide) (by decide) (by decide) (by decide) (by decide)) eRn) (hc.c11.same (eS 176 (by decide) (by decide) (by decide) (by decide) (by decide) (by decide) (by decide) (by decide)) (eS 177 (by decide) (by decide) (by decide) (by decide) (by decide) (by decide) (by decide) (by decide)) (eS 178 (by decide) (by decide) (by decide) (by decide) (by decide) (by decide) (by decide) (by decide)) (eS 179 (by decide) (by decide) (by decide) (by decide) (by decide) (by decide) (by decide) (by decide)) eF eA (fun f => by rw [(frT.s 4 (by decide) (by decide) (by decide) f).1]) (frT.s 23 (by decide) (by decide) (by decide) 0).1) (e1j 2 (by decide)) (e1j 6 (by decide)) (e1j 7 (by decide)) (e1j 60 (by decide)) (e1j 1 (by decide)) (e1j 70 (by decide)) (e1j 71 (by decide)) (e1j 30 (by decide)) (eS 100 (by decide) (by decide) (by decide) (by decide) (by decide) (by decide) (by decide) (by decide)) (eS 191 (by decide) (by decide) (by decide) (by decide) (by decide) (by decide) (by decide) (by decide)) (eS 187 (by decide) (by decide) (by decide) (by decide) (by decide) (by decide) (by decide) (by decide)) (eS 172 (by decide) (by decide) (by decide) (by decide) (by decide) (by decide) (by decide) (by decide)) (eS 173 (by decide) (by decide) (by decide) (by decide) (by decide) (by decide) (by decide) (by decide)) (eS 174 (by decide) (by decide) (by decide) (by decide) (by decide) (by decide) (by decide) (by decide)) (eS 175 (by decide) (by decide) (by decide) (by decide) (by decide) (by decide) (by decide) (by decide)) (eS 131 (by decide) (by decide) (by decide) (by decide) (by decide) (by decide) (by decide) (by decide)) (eS 132 (by decide) (by decide) (by decide) (by decide) (by decide) (by decide) (by decide) (by decide)) (eS 133 (by decide) (by decide) (by decide) (by decide) (by decide) (by decide) (by decide) (by decide)) (eS 134 (by decide) (by decide) (by decide) (by decide) (by decide) (by decide) (by decide) (by decide)) (eS 135 (by decide) (by decide) (by decide) (by decide) (by decide) (by decide) (by decide) (by decide)) (eS 136 (by decide) (by decide) (by decide) (by decide) (by decide) (by decide) (by decide) (by decide))
  · rintro (⟨y, -⟩ | ⟨y1, y2, -⟩ | ⟨y, -⟩)
    · rw [y] at hq; exact hq rfl
    · rcases (show q.1 = 61 ∨ q.1 = 62 ∨ q.1 = 63 by omega) with e | e | e <;> (rw [e] at hq; exact hq rfl)
    · simp only [List.mem_cons, List.not_mem_nil, or_false] at y
      rcases y with e | e | e | e <;> (rw [e] at hq; exact hq rfl)
set_option maxRecDepth 4000 in
theorem cx_toy {E : En} (hok : EOK E) {h : Hp} {m : St} (hc : Cp m h) (hw : Wf m) (hx : Wx m) (k0 : Int32) (b : Int32) (hg : Wg m) : Call E m_X11_toy 7 5 83 [vR TH, vI k0, vI b] h (fun r h' => r = some (vI (sToy m k0 b).1) ∧ Cp (sToy m k0 b).2 h' ∧ mo h' = mo h) := by
  have hs := hc.s
  have hKb := hw.k.2
  have hTb := hw.t.2
  have hFb := hw.f.2
  have hRb := hw.r.2
  have hGb := hw.g.2
  have hAb := hw.a.2
  have hTlb := hw.tl.2
  have hNwb := hw.w.2
  refine Call.enter hok (by decide) (Nat.le_of_ble_eq_true rfl) ?_
  show G E m_X11_toy 7 5 83 _ h 0 [some (vR TH), some (vI k0), some (vI b), none, none] [] h 0 0
  refine g_aload_n (pc' := 1) dX11_toy_0 rfl rfl ?_
  refine g_iload_n (pc' := 2) dX11_toy_1 rfl rfl ?_
  rcases Classical.em (∃ j : Nat, j < nK m ∧ k0 = nI j) with w2 | w2
  ·
    have k2 := w2
    obtain ⟨k, hk, rfl⟩ := k2
    refine g_invV (pc' := 5) (cx_kindAt hok hc hw hk) dX11_toy_2 rfl rfl ck_12 rfl ml_X11_119 im_X11_kindAt sl_X11_kindAt in_X11 co_X11_kindAt pd_X11_kindAt rfl (by omega) (by decide) ⟨by decide, by decide⟩ (Nat.le_of_ble_eq_true rfl) ?_
    rintro _ _ ⟨rfl, rfl⟩ -
    refine g_astore_n (pc' := 6) dX11_toy_5 rfl (by decide) rfl ?_
    try simp only [List.set]
    refine g_aload_n (pc' := 7) dX11_toy_6 rfl rfl ?_
    refine g_ifnull (pc' := 10) dX11_toy_7 rfl ?_
    refine g_iload_n (pc' := 11) dX11_toy_10 rfl rfl ?_
    refine g_iconstN (n := 0) (pc' := 12) dX11_toy_11 rfl ?_
    refine g_bipushN (n := 99) (pc' := 14) dX11_toy_12 rfl (by decide) ?_
    refine g_invS (pc' := 17) (cx_within hok _ _ _) dX11_toy_14 rfl ml_X11_99 st_X11_within in_X11 co_X11_within pd_X11_within rfl (by omega) (by decide) ⟨by decide, by decide⟩ (Nat.le_of_ble_eq_true rfl) ?_
    rintro _ _ ⟨rfl, rfl⟩ -
    refine g_ifB_eq (tgt := 32) (pc' := 20) dX11_toy_17 rfl (by decide) (fun c17 => ?_) (fun c17 => ?_)
    ·
      refine g_iconst (v := -1) (pc' := 33) dX11_toy_32 rfl (by decide) ?_
      refine g_iret dX11_toy_33 rfl (by decide) (by decide) ?_
      have e : sToy m (nI k) b = (-1, m) := cif_f (fun z => c17 z.2.2)
      rw [e]
      exact ⟨rfl, hc, rfl⟩
    ·
      refine g_aload_n (pc' := 21) dX11_toy_20 rfl rfl ?_
      refine g_getS (pc' := 24) (k := 11) (b := (13, 1)) dX11_toy_21 rfl rfl ck_12 (by decide) fl_X11_35 rfl hs rfl ?_
      refine g_invV (pc' := 27) (ls_size hok hc.c6.1) dX11_toy_24 rfl rfl ck_0 rfl ml_X11_103 im_Jx4a65c_size_8abf5 sl_Jx4a65c_size_8abf5 in_Jx4a65c co_Jx4a65c_size_8abf5 pd_Jx4a65c_size_8abf5 rfl (by omega) (by decide) ⟨by decide, by decide⟩ (Nat.le_of_ble_eq_true rfl) ?_
      rintro _ _ ⟨rfl, rfl⟩ -
      refine g_bipushN (n := 16) (pc' := 29) dX11_toy_27 rfl (by decide) ?_
      refine g_icmp_ltN (tgt := 34) (pc' := 32) dX11_toy_29 rfl (by decide) (by omega) (by omega) (fun c29 => ?_) (fun c29 => ?_)
      ·
        refine g_new (3, nT m) (hc.c6.1.2.2.2.1 _ (Nat.le_refl _)) (pc' := 37) dX11_toy_34 rfl rfl ck_9 cl_X11_133 it_X8 in_X8 (by decide) (by decide) ?_
        refine g_dup (pc' := 38) dX11_toy_37 rfl rfl ?_
        refine g_aload_n (pc' := 39) dX11_toy_38 rfl rfl ?_
        refine G.live (fun hTH => ?_)
        refine g_getR (pc' := 42) (k := 11) (r := some (13, 1)) dX11_toy_39 rfl rfl ck_12 (by decide) fl_X11_35 rfl (hc.s 0 11 0 _ rfl hTH) ?_
        refine g_invV (pc' := 45) (ls_sizeV hok (n := nT m) (by exact hc.c6.1.1)) dX11_toy_42 rfl rfl ck_0 rfl ml_X11_103 im_Jx4a65c_size_8abf5 sl_Jx4a65c_size_8abf5 in_Jx4a65c co_Jx4a65c_size_8abf5 pd_Jx4a65c_size_8abf5 rfl (by omega) (by decide) ⟨by decide, by decide⟩ (Nat.le_of_ble_eq_true rfl) ?_
        rintro _ _ ⟨rfl, rfl⟩ -
        refine g_aload_n (pc' := 46) dX11_toy_45 rfl rfl ?_
        refine G.live (fun hKL => ?_)
        refine g_iload_n (pc' := 47) dX11_toy_46 rfl rfl ?_
        refine g_aload_n (pc' := 48) dX11_toy_47 rfl rfl ?_
        refine g_getIv (v := m 1 2) (pc' := 51) (k := 0) dX11_toy_48 rfl rfl ck_12 (by decide) fl_X11_95 rfl (hc.c1.1) ?_
        refine g_invI (pc' := 54) (cx_toyInit hok (t := nT m) (k := k) (by exact hc.s 2 6 k _ rfl hKL) (by exact (hc.c6.2.2 _ (Nat.le_refl _)).1) (by exact (hc.c6.2.2 _ (Nat.le_refl _)).2.1) (by exact (hc.c6.2.2 _ (Nat.le_refl _)).2.2) _ _ _) dX11_toy_51 rfl ml_X11_135 im_X8_init in_X8 co_X8_init rfl rfl pd_X8_init rfl (by omega) (by decide) ⟨by decide, by decide⟩ (Nat.le_of_ble_eq_true rfl) ?_
        rintro _ _ ⟨rfl, rfl⟩ -
        refine g_astore (pc' := 56) dX11_toy_54 rfl (by decide) rfl ?_
        try simp only [List.set]
        refine g_aload_n (pc' := 57) dX11_toy_56 rfl rfl ?_
        refine G.live (fun hTH => ?_)
        refine g_getR (pc' := 60) (k := 11) (r := some (13, 1)) dX11_toy_57 rfl rfl ck_12 (by decide) fl_X11_35 rfl (hc.s 0 11 0 _ rfl hTH) ?_
        refine g_aload (pc' := 62) dX11_toy_60 rfl rfl ?_
        have lX : LsA (tyH (nH h (3, nT m)) (nT m) k (nI (nT m)) b (m 1 2)) 1 (nT m) 3 := hc.c6.1.a.nk (ty_fr h (nT m) k (nI (nT m)) b (m 1 2)) (by decide)
        rcases (show (nT m) = 0 ∨ (0 < (nT m) ∧ (nT m) < 10) ∨ (nT m) = 10 ∨ (10 < (nT m) ∧ (nT m) < 15) ∨ (nT m) = 15 by omega) with e0 | e1 | e10 | e11 | e15
        ·
          refine g_invV (pc' := 65) (li_first hok (i := 1) (v := (3, nT m)) rfl (by exact hc.e.1) (by exact lX.2.2.2.1 e0) (by exact lX.2.1.trans (by rw [e0]; exact congrArg some (dN_0 1))) (by exact lX.1.trans (by rw [e0])) rfl ck_9 wd_toyc) dX11_toy_62 rfl rfl ck_0 rfl ml_X11_112 im_Jx4a65c_add_9ea2d sl_Jx4a65c_add_9ea2d in_Jx4a65c co_Jx4a65c_add_9ea2d pd_Jx4a65c_add_9ea2d rfl (by omega) (by decide) ⟨by decide, by decide⟩ (Nat.le_of_ble_eq_true rfl) ?_
          rintro _ h2 ⟨rfl, e2⟩ -
          obtain ⟨l2, f2⟩ : LsA h2 1 (nT m + 1) 3 ∧ Fr (SK 1 [] 0) (tyH (nH h (3, nT m)) (nT m) k (nI (nT m)) b (m 1 2)) h2 := by rw [← e2]; exact first_post lX e0
          clear e2
          refine g_pop (pc' := 66) dX11_toy_65 rfl rfl ?_
          refine g_aload (pc' := 68) dX11_toy_66 rfl rfl ?_
          refine g_getIv (v := nI (nT m)) (pc' := 71) (k := 0) dX11_toy_68 rfl rfl ck_9 (by decide) fl_X11_138 rfl ((congrFun (f2 (3, nT m) (nS (Or.inl (by decide)) (Or.inl (by decide)) (Or.inl (by simp)))).1 0).trans (ty_v _ _ _ _ _ _ 0)) ?_
          refine g_iret dX11_toy_71 rfl (by decide) (by decide) ?_
          have e : sToy m (nI k) b = (nI (nT m), stU (stN (stToy m (nI k) b) 125 (6 * nT m) (fun s => m 113 (6 * k + s)) 6) 1 4 (nI (nT m + 1))) := by unfold sToy; simp only [nI_clamp (show k < 2 ^ 31 by omega)]; exact cif_t ⟨by omega, w2, c17⟩
          rw [e]
          exact toy_end hc hw hx hg hk (by omega) l2 f2
        ·
          have eD : dN 1 (nT m) = (61, 1) := dN_1 (by omega) (by omega)
          refine g_invV (pc' := 65) (li_add hok (i := 1) (n := (nT m)) (v := (3, nT m)) (N := 10) (D := (61, 1)) (by exact lX.2.1.trans (congrArg some eD)) rfl (by decide) (by omega) (by exact lX.1) rfl ck_9 wd_toyc) dX11_toy_62 rfl rfl ck_0 rfl ml_X11_112 im_Jx4a65c_add_9ea2d sl_Jx4a65c_add_9ea2d in_Jx4a65c co_Jx4a65c_add_9ea2d pd_Jx4a65c_add_9ea2d rfl (by omega) (by decide) ⟨by decide, by decide⟩ (Nat.le_of_ble_eq_true rfl) ?_
          rintro _ h2 ⟨rfl, e2⟩ -
          obtain ⟨l2, f2⟩ : LsA h2 1 (nT m + 1) 3 ∧ Fr (SK 1 [] 0) (tyH (nH h (3, nT m)) (nT m) k (nI (nT m)) b (m 1 2)) h2 := by rw [← e2]; exact add_post (N := 10) lX (by omega) eD (dN_1 (by omega) (by omega)) (Or.inl rfl) (by omega)
          clear e2
          refine g_pop (pc' := 66) dX11_toy_65 rfl rfl ?_
          refine g_aload (pc' := 68) dX11_toy_66 rfl rfl ?_
          refine g_getIv (v := nI (nT m)) (pc' := 71) (k := 0) dX11_toy_68 rfl rfl ck_9 (by decide) fl_X11_138 rfl ((congrFun (f2 (3, nT m) (nS (Or.inl (by decide)) (Or.inl (by decide)) (Or.inl (by simp)))).1 0).trans (ty_v _ _ _ _ _ _ 0)) ?_
          refine g_iret dX11_toy_71 rfl (by decide) (by decide) ?_
          have e : sToy m (nI k) b = (nI (nT m), stU (stN (stToy m (nI k) b) 125 (6 * nT m) (fun s => m 113 (6 * k + s)) 6) 1 4 (nI (nT m + 1))) := by unfold sToy; simp only [nI_clamp (show k < 2 ^ 31 by omega)]; exact cif_t ⟨by omega, w2, c17⟩
          rw [e]
          exact toy_end hc hw hx hg hk (by omega) l2 f2
        ·
          have eD : dN 1 (nT m) = (61, 1) := dN_1 (by omega) (by omega)
          refine g_invV (pc' := 65) (li_gaddA hok (i := 1) (t := nT m) (by exact hc.e.2.2.2) (by exact lX.2.2.2.2.1 (by omega)) (by exact lX.2.1.trans (congrArg some eD)) (fun j b hj q => by have q1 := lX.2.2.1 j (by omega); rw [eD] at q1; cases q1.symm.trans q; rfl) (by exact lX.1.trans (by rw [e10]))) dX11_toy_62 rfl rfl ck_0 rfl ml_X11_112 im_Jx4a65c_add_9ea2d sl_Jx4a65c_add_9ea2d in_Jx4a65c co_Jx4a65c_add_9ea2d pd_Jx4a65c_add_9ea2d rfl (by omega) (by decide) ⟨by decide, by decide⟩ (Nat.le_of_ble_eq_true rfl) ?_
          rintro _ h2 ⟨rfl, e2⟩ -
          obtain ⟨l2, f2⟩ : LsA h2 1 (nT m + 1) 3 ∧ Fr (SK 1 [] 0) (tyH (nH h (3, nT m)) (nT m) k (nI (nT m)) b (m 1 2)) h2 := by rw [← e2]; exact grow_post lX (by omega) e10 eD (dN_2 (by omega) (by omega)) (Or.inl ⟨rfl, rfl, e10⟩)
          clear e2
          refine g_pop (pc' := 66) dX11_toy_65 rfl rfl ?_
          refine g_aload (pc' := 68) dX11_toy_66 rfl rfl ?_
          refine g_getIv (v := nI (nT m)) (pc' := 71) (k := 0) dX11_toy_68 rfl rfl ck_9 (by decide) fl_X11_138 rfl ((congrFun (f2 (3, nT m) (nS (Or.inl (by decide)) (Or.inl (by decide)) (Or.inl (by simp)))).1 0).trans (ty_v _ _ _ _ _ _ 0)) ?_
          refine g_iret dX11_toy_71 rfl (by decide) (by decide) ?_
          have e : sToy m (nI k) b = (nI (nT m), stU (stN (stToy m (nI k) b) 125 (6 * nT m) (fun s => m 113 (6 * k + s)) 6) 1 4 (nI (nT m + 1))) := by unfold sToy; simp only [nI_clamp (show k < 2 ^ 31 by omega)]; exact cif_t ⟨by omega, w2, c17⟩
          rw [e]
          exact toy_end hc hw hx hg hk (by omega) l2 f2
        ·
          have eD : dN 1 (nT m) = (62, 1) := dN_2 (by omega) (by omega)
          refine g_invV (pc' := 65) (li_add hok (i := 1) (n := (nT m)) (v := (3, nT m)) (N := 15) (D := (62, 1)) (by exact lX.2.1.trans (congrArg some eD)) rfl (by decide) (by omega) (by exact lX.1) rfl ck_9 wd_toyc) dX11_toy_62 rfl rfl ck_0 rfl ml_X11_112 im_Jx4a65c_add_9ea2d sl_Jx4a65c_add_9ea2d in_Jx4a65c co_Jx4a65c_add_9ea2d pd_Jx4a65c_add_9ea2d rfl (by omega) (by decide) ⟨by decide, by decide⟩ (Nat.le_of_ble_eq_true rfl) ?_
          rintro _ h2 ⟨rfl, e2⟩ -
          obtain ⟨l2, f2⟩ : LsA h2 1 (nT m + 1) 3 ∧ Fr (SK 1 [] 0) (tyH (nH h (3, nT m)) (nT m) k (nI (nT m)) b (m 1 2)) h2 := by rw [← e2]; exact add_post (N := 15) lX (by omega) eD (dN_2 (by omega) (by omega)) (Or.inr (Or.inl rfl)) (by omega)
          clear e2
          refine g_pop (pc' := 66) dX11_toy_65 rfl rfl ?_
          refine g_aload (pc' := 68) dX11_toy_66 rfl rfl ?_
          refine g_getIv (v := nI (nT m)) (pc' := 71) (k := 0) dX11_toy_68 rfl rfl ck_9 (by decide) fl_X11_138 rfl ((congrFun (f2 (3, nT m) (nS (Or.inl (by decide)) (Or.inl (by decide)) (Or.inl (by simp)))).1 0).trans (ty_v _ _ _ _ _ _ 0)) ?_
          refine g_iret dX11_toy_71 rfl (by decide) (by decide) ?_
          have e : sToy m (nI k) b = (nI (nT m), stU (stN (stToy m (nI k) b) 125 (6 * nT m) (fun s => m 113 (6 * k + s)) 6) 1 4 (nI (nT m + 1))) := by unfold sToy; simp only [nI_clamp (show k < 2 ^ 31 by omega)]; exact cif_t ⟨by omega, w2, c17⟩
          rw [e]
          exact toy_end hc hw hx hg hk (by omega) l2 f2
        ·
          have eD : dN 1 (nT m) = (62, 1) := dN_2 (by omega) (by omega)
          refine g_invV (pc' := 65) (li_gaddB hok (i := 1) (t := nT m) (by exact hc.e.2.2.2) (by exact lX.2.2.2.2.2 (by omega)) (by exact lX.2.1.trans (congrArg some eD)) (fun j b hj q => by have q1 := lX.2.2.1 j (by omega); rw [eD] at q1; cases q1.symm.trans q; rfl) (by exact lX.1.trans (by rw [e15]))) dX11_toy_62 rfl rfl ck_0 rfl ml_X11_112 im_Jx4a65c_add_9ea2d sl_Jx4a65c_add_9ea2d in_Jx4a65c co_Jx4a65c_add_9ea2d pd_Jx4a65c_add_9ea2d rfl (by omega) (by decide) ⟨by decide, by decide⟩ (Nat.le_of_ble_eq_true rfl) ?_
          rintro _ h2 ⟨rfl, e2⟩ -
          obtain ⟨l2, f2⟩ : LsA h2 1 (nT m + 1) 3 ∧ Fr (SK 1 [] 0) (tyH (nH h (3, nT m)) (nT m) k (nI (nT m)) b (m 1 2)) h2 := by rw [← e2]; exact grow_post lX (by omega) e15 eD (dN_3 (by omega)) (Or.inr ⟨rfl, rfl, e15⟩)
          clear e2
          refine g_pop (pc' := 66) dX11_toy_65 rfl rfl ?_
          refine g_aload (pc' := 68) dX11_toy_66 rfl rfl ?_
          refine g_getIv (v := nI (nT m)) (pc' := 71) (k := 0) dX11_toy_68 rfl rfl ck_9 (by decide) fl_X11_138 rfl ((congrFun (f2 (3, nT m) (nS (Or.inl (by decide)) (Or.inl (by decide)) (Or.inl (by simp)))).1 0).trans (ty_v _ _ _ _ _ _ 0)) ?_
          refine g_iret dX11_toy_71 rfl (by decide) (by decide) ?_
          have e : sToy m (nI k) b = (nI (nT m), stU (stN (stToy m (nI k) b) 125 (6 * nT m) (fun s => m 113 (6 * k + s)) 6) 1 4 (nI (nT m + 1))) := by unfold sToy; simp only [nI_clamp (show k < 2 ^ 31 by omega)]; exact cif_t ⟨by omega, w2, c17⟩
          rw [e]
          exact toy_end hc hw hx hg hk (by omega) l2 f2
      ·
        refine g_iconst (v := -1) (pc' := 33) dX11_toy_32 rfl (by decide) ?_
        refine g_iret dX11_toy_33 rfl (by decide) (by decide) ?_
        have e : sToy m (nI k) b = (-1, m) := cif_f (fun z => z.1 (by omega))
        rw [e]
        exact ⟨rfl, hc, rfl⟩
  ·
    refine g_invV (pc' := 5) (cx_kindAtN hok hc hw w2) dX11_toy_2 rfl rfl ck_12 rfl ml_X11_119 im_X11_kindAt sl_X11_kindAt in_X11 co_X11_kindAt pd_X11_kindAt rfl (by omega) (by decide) ⟨by decide, by decide⟩ (Nat.le_of_ble_eq_true rfl) ?_
    rintro _ _ ⟨rfl, rfl⟩ -
    refine g_astore_n (pc' := 6) dX11_toy_5 rfl (by decide) rfl ?_
    try simp only [List.set]
    refine g_aload_n (pc' := 7) dX11_toy_6 rfl rfl ?_
    refine g_ifnullN (tgt := 32) dX11_toy_7 (by decide) ?_
    refine g_iconst (v := -1) (pc' := 33) dX11_toy_32 rfl (by decide) ?_
    refine g_iret dX11_toy_33 rfl (by decide) (by decide) ?_
    have e : sToy m k0 b = (-1, m) := cif_f (fun z => w2 z.2.1)
    rw [e]
    exact ⟨rfl, hc, rfl⟩
