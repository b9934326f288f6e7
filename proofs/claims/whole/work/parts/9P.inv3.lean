/-! what stays, call by call -/
theorem clp_r {lo hi : Int32} (h : lo ≤ hi) (v : Option Int32) : lo ≤ clp lo hi v ∧ clp lo hi v ≤ hi := by
  unfold clp
  split
  · exact ⟨Int32.le_refl _, h⟩
  · rename_i z
    split
    · exact ⟨h, Int32.le_refl _⟩
    · rename_i y
      exact ⟨Int32.not_lt.mp z, Int32.not_lt.mp y⟩
theorem tlF_r {m : St} {R : Rm} {e : Nat → Int32} {x lo hi no : Int32} (h : lo ≤ hi) (h1 : lo ≤ no ∧ no ≤ hi) : ∀ n k, lo ≤ tlF m R e x lo hi no n k ∧ tlF m R e x lo hi no n k ≤ hi
  | 0, _ => h1
  | n + 1, k => cif_i (P := fun z : Int32 => lo ≤ z ∧ z ≤ hi) (fun _ => clp_r h _) (fun _ => tlF_r h h1 n (k + 1))
theorem due_r {c : Nat} {m : St} (hi : In c m) {R : Rm} {t f : Nat} : -1 ≤ dueF m R t f ∧ dueF m R t f ≤ 899 := by
  have q := tlF_r (m := m) (R := R) (e := envT m t f 0) (x := nI 100) (lo := nI 1) (hi := nI 200) (no := nI 21) (by decide) ⟨by decide, by decide⟩ (nC m) 0
  obtain ⟨n, ⟨h1, h2⟩, e⟩ := okN_n q
  unfold dueF
  have w := hi.1.w
  rw [e, w.1, nI_add]
  exact ⟨Int32.le_trans (by decide) (nI0 (n := nW m + n) (by omega)), nI_le (show nW m + n ≤ 899 by omega) (by decide)⟩
theorem in_push {c : Nat} {m : St} (hi : In c m) (v : Int32) {T : Nat} (hT : T + 4 ≤ 220) : In c (pushS m v T) := by
  unfold pushS
  exact in_len0 (in_tape0 (in_len0 (in_tape0 (in_len0 (in_tape0 (in_len0 (in_tape0 hi) (by omega))) (by omega))) (by omega))) (by omega)
section IN
variable {c : Nat} {m : St}
theorem in_now (hi : In c m) (hc : c < 512) (x : Int32) : In (c + 1) (sNow m x).2 := in_cif hi (fun q => in_nowS hi hc q)
theorem in_bag (hi : In c m) (hc : c < 512) (x : Int32) : In (c + 1) (sBag m x).2 := in_cif hi (fun q => in_bagS hi hc q)
theorem in_telling (hi : In c m) (hc : c < 512) (x : Int32) : In (c + 1) (sTelling m x).2 := in_cif hi (fun _ => in_telS hi hc)
theorem in_minutes (hi : In c m) (hc : c < 512) (x n : Int32) : In (c + 1) (sMinutes m x n).2 := in_cif hi (fun q => in_minS hi hc q.2)
theorem in_kind (hi : In c m) (hc : c < 512) (a p z k b : Int32) : In (c + 1) (sKind m a p z k b).2 := in_cif hi (fun q => in_kindS hi hc q.1 q.2.2.1)
theorem in_family (hi : In c m) (hc : c < 512) (a p z : Int32) : In (c + 1) (sFamily m a p z).2 := in_cif hi (fun q => in_famS hi hc q.1)
theorem in_recall (hi : In c m) (hc : c < 512) (a p z : Int32) : In (c + 1) (sRecall m a p z).2 := in_cif hi (fun q => in_recS hi hc q.1)
theorem in_cull (hi : In c m) (hc : c < 512) (x : Int32) : In (c + 1) (sCull m x).2 := in_cif hi (fun q => by
  have b4 := hi.1.t.2
  obtain ⟨⟨j, hj, rfl⟩, q2⟩ := q
  rw [nI_clamp (by omega)] at q2 ⊢
  exact in_cullS hi hc hj q2)
theorem in_wash (hi : In c m) (hc : c < 512) (x : Int32) : In (c + 1) (sWash m x).2 := in_cif hi (fun q => by
  have b4 := hi.1.t.2
  obtain ⟨⟨j, hj, rfl⟩, q2⟩ := q
  rw [nI_clamp (by omega)]
  exact in_washS hi hc hj)
theorem in_pays (hi : In c m) (hc : c < 512) (x n : Int32) : In (c + 1) (sPays m x n).2 := in_cif hi (fun q => by
  have b5 := hi.1.f.2
  obtain ⟨⟨j, hj, rfl⟩, q2⟩ := q
  rw [nI_clamp (by omega)]
  exact in_payS hi hc hj)
theorem in_leaves (hi : In c m) (hc : c < 512) (x k : Int32) : In (c + 1) (sLeaves m x k).2 := in_cif hi (fun q => by
  have b5 := hi.1.f.2
  have b3 := hi.1.k.2
  obtain ⟨⟨j, hj, rfl⟩, ⟨i, hk, rfl⟩, q2⟩ := q
  rw [nI_clamp (by omega), nI_clamp (by omega)]
  exact in_setS hi hc hj (by omega) (Or.inl rfl))
theorem in_waits (hi : In c m) (hc : c < 512) (x k : Int32) : In (c + 1) (sWaits m x k).2 := in_cif hi (fun q => by
  have b5 := hi.1.f.2
  have b3 := hi.1.k.2
  obtain ⟨⟨j, hj, rfl⟩, ⟨i, hk, rfl⟩, q2⟩ := q
  rw [nI_clamp (show j < 2 ^ 31 by omega), nI_clamp (show i < 2 ^ 31 by omega)]
  exact in_waitS hi hc hj (by omega))
theorem in_told (hi : In c m) (hc : c < 512) (x k : Int32) : In (c + 1) (sTold m x k).2 := in_cif hi (fun q => by
  have b5 := hi.1.f.2
  have b59 := hi.1.r.2
  obtain ⟨⟨j, hj, rfl⟩, ⟨i, hk, rfl⟩, q2⟩ := q
  rw [nI_clamp (show j < 2 ^ 31 by omega), nI_clamp (show i < 2 ^ 31 by omega)]
  exact in_toldS hi hc hj hk)
theorem in_check (hi : In c m) (hc : c < 512) (x k : Int32) : In (c + 1) (sCheck m x k).2 := in_cif hi (fun _ => in_lenS hi hc (Nat.zero_le _))
theorem in_pieces (hi : In c m) (hc : c < 512) (k0 s0 n0 w0 : Int32) : In (c + 1) (sPieces m k0 s0 n0 w0).2 := in_cif hi (fun q => by
  have b3 := hi.1.k.2
  obtain ⟨⟨j, hj, rfl⟩, q2, q3, q4, q5⟩ := q
  obtain ⟨i, h5, rfl⟩ := rngN (N := 5) (by decide) q2.1 q2.2
  rw [nI_clamp (show j < 2 ^ 31 by omega)] at q5 ⊢
  rw [nI_clamp (show i < 2 ^ 31 by omega)]
  exact in_pieS hi hc hj (by omega) q3 q4 q5)
theorem in_gift (hi : In c m) (hc : c < 512) (t0 g n : Int32) : In (c + 1) (sGift m t0 g n).2 := in_cif hi (fun q => by
  obtain ⟨q1, ⟨j, hj, rfl⟩, q3, _⟩ := q
  exact in_gifS hi hc q1 hj q3)
theorem in_toy (hi : In c m) (hc : c < 512) (k0 b : Int32) : In (c + 1) (sToy m k0 b).2 := in_cif hi (fun q => by
  have b3 := hi.1.k.2
  obtain ⟨q1, ⟨j, hj, rfl⟩, q3⟩ := q
  rw [nI_clamp (show j < 2 ^ 31 by omega)]
  exact in_toyS hi hc q1 hj)
theorem in_feed (hi : In c m) (_ : c < 512) (a b c1 d e : Int32) : In (c + 1) (sFeed m a b c1 d e).2 := in_cif hi (fun q => (in_push (in_push (in_push (in_push (in_push hi a (by omega)) b (by omega)) c1 (by omega)) d (by omega)) e (by omega)).up)
theorem in_mend (hi : In c m) (_ : c < 512) (t0 : Int32) : In (c + 1) (sMend m t0).2 := in_cif hi (fun q => by
  have b4 := hi.1.t.2
  obtain ⟨⟨j, hj, rfl⟩, q2⟩ := q
  rw [nI_clamp (show j < 2 ^ 31 by omega)]
  exact (in_hasS hi hj (fun s hs => ⟨(hi.2.1.pc _ s (hi.1.kd hj).2 hs).1.1, Int32.le_refl _⟩)).up)
theorem in_lend (hi : In c m) (hc : c < 512) (R : Rm) (t0 f0 : Int32) : In (c + 1) (sLend m R t0 f0).2 := in_cif hi (fun q => by
  have b3 := hi.1.k.2
  have b4 := hi.1.t.2
  have b5 := hi.1.f.2
  obtain ⟨⟨t, ht, rfl⟩, ⟨f, hf, rfl⟩, q3, _⟩ := q
  rw [nI_clamp (show t < 2 ^ 31 by omega), nI_clamp (show f < 2 ^ 31 by omega)]
  obtain ⟨n, hn, en⟩ := hi.2.1.le
  have hn2 : n + 1 ≤ 300 := by
    rcases Nat.lt_or_ge n 300 with z | z
    · omega
    · exact absurd (by rw [en, show n = 300 by omega]) q3
  have kb : kd m t < 8 := by have := (hi.1.kd ht).2; omega
  have du := due_r hi (R := R) (t := t) (f := f)
  unfold lendS
  rw [en, nI_add]
  exact in_actS (in_len71 (in_set0 (in_out0 hi ht hf du) hf kb) hn2) hc)
theorem in_lost (hi : In c m) (hc : c < 512) (R : Rm) (t0 : Int32) : In (c + 1) (sLost m R t0).2 := in_cif hi (fun q => by
  have b4 := hi.1.t.2
  obtain ⟨⟨t, ht, rfl⟩, q2⟩ := q
  rw [nI_clamp (show t < 2 ^ 31 by omega)] at q2 ⊢
  have hl := (hi.2.1.hl ht q2 hi.1.f.2).2
  unfold lostS
  exact in_cms0 (in_actS (in_owe0 hi hl) hc) (Or.inr rfl))
theorem in_back (hi : In c m) (hc : c < 512) (R : Rm) (t0 : Int32) : In (c + 1) (sBack m R t0).2 := by
  unfold sBack
  by_cases q : (∃ j : Nat, j < nT m ∧ t0 = nI j) ∧ m 118 t0.toNatClampNeg = 1 ∧ 6 ≤ nTl m
  · rw [cif_t q]
    have b4 := hi.1.t.2
    obtain ⟨⟨t, ht, rfl⟩, q2, q3⟩ := q
    rw [nI_clamp (show t < 2 ^ 31 by omega)] at q2 ⊢
    have i0 : In c (stU m 1 1 (nI 0)) := in_len0 hi (Nat.zero_le _)
    by_cases q4 : bkOK m t
    · rw [cif_t q4]
      have i1 : In c (bk3 m t) := by
        refine in_wear0 (in_hasS i0 ht (fun s hs => ⟨?_, ?_⟩)) ht
        · have := (rb_t (m := m) (n := s + 1) (j := s) (Nat.lt_succ_self s))
          rw [this.1]
          exact nI0 (by omega)
        · exact Int32.le_trans (q4 s hs) (hi.2.1.ha t s ht hs).2
      have hl := (i1.2.1.hl (t := t) ht q2 i1.1.f.2).2
      unfold bkT bkS
      refine in_owe0 (in_cms0 (in_bakS (in_dirt0 i1 ht) hc rfl hl ?_) (Or.inl rfl)) hl
      unfold bkC
      refine cif_i (P := fun z : Int32 => z = 0 ∨ z = 1 ∨ z = 2) (fun _ => Or.inl rfl) (fun _ => ?_)
      exact cif_i (P := fun z : Int32 => z = 0 ∨ z = 1 ∨ z = 2) (fun _ => Or.inr (Or.inl rfl)) (fun _ => Or.inr (Or.inr rfl))
    · rw [cif_f q4]
      exact i0.up
  · rw [cif_f q]
    exact hi.up
theorem in_weigh (hi : In c m) (_ : c < 512) (t0 w0 e0 x : Int32) : In (c + 1) (sWeigh m t0 w0 e0 x).2 := in_id hi
theorem in_whole (hi : In c m) (_ : c < 512) (k0 x : Int32) : In (c + 1) (sWhole m k0 x).2 := in_id hi
theorem in_buying (hi : In c m) (_ : c < 512) (a0 w0 x : Int32) : In (c + 1) (sBuying m a0 w0 x).2 := in_id hi
theorem in_mending (hi : In c m) (_ : c < 512) (a0 x : Int32) : In (c + 1) (sMending m a0 x).2 := in_id hi
theorem in_rota (hi : In c m) (_ : c < 512) (c0 t0 : Int32) : In (c + 1) (sRota m c0 t0).2 := in_id hi
theorem in_recalled (hi : In c m) (_ : c < 512) (r0 x : Int32) : In (c + 1) (sRecalled m r0 x).2 := in_id hi
theorem in_owes (hi : In c m) (_ : c < 512) (x : Int32) : In (c + 1) (sOwes m x).2 := in_id hi
theorem in_forgiving (hi : In c m) (_ : c < 512) (x : Int32) : In (c + 1) (sForgiving m x).2 := in_id hi
theorem in_peak (hi : In c m) (_ : c < 512) (x : Int32) : In (c + 1) (sPeak m x).2 := in_id hi
theorem in_unwanted (hi : In c m) (_ : c < 512) (x : Int32) : In (c + 1) (sUnwanted m x).2 := in_id hi
theorem in_why (hi : In c m) (_ : c < 512) (t0 x : Int32) : In (c + 1) (sWhy m t0 x).2 := in_id hi
theorem in_where (hi : In c m) (_ : c < 512) (t0 x y : Int32) : In (c + 1) (sWhere m t0 x y).2 := in_id hi
theorem in_toyIs (hi : In c m) (_ : c < 512) (t0 x : Int32) : In (c + 1) (sToyIs m t0 x).2 := in_id hi
theorem in_not (hi : In c m) (_ : c < 512) (R : Rm) (t0 f0 : Int32) : In (c + 1) (sNot m R t0 f0).2 := in_id hi
theorem in_next (hi : In c m) (_ : c < 512) (R : Rm) (k0 x : Int32) : In (c + 1) (sNext m R k0 x).2 := in_id hi
theorem in_van (hi : In c m) (_ : c < 512) (R : Rm) (v0 n0 x : Int32) : In (c + 1) (sVan m R v0 n0 x).2 := in_id hi
end IN
theorem In.cong {c : Nat} {m m' : St} (hi : In c m) (ms : ∀ s, s ≠ 1 → ¬ (131 ≤ s ∧ s ≤ 136) → m' s = m s) (m1 : ∀ j, j ≠ 1 → j ≠ 30 → m' 1 j = m 1 j) (h1 : m' 1 1 = nI (nTl m') ∧ nTl m' ≤ 220) (h30 : m' 1 30 = nI (nC m') ∧ nC m' ≤ 16) : In c m' := by
  obtain ⟨hw, hx, hg, ha, hk⟩ := hi
  have nk : nK m' = nK m := by unfold nK; rw [m1 3 (by decide) (by decide)]
  have nt : nT m' = nT m := by unfold nT; rw [m1 4 (by decide) (by decide)]
  have nf : nF m' = nF m := by unfold nF; rw [m1 5 (by decide) (by decide)]
  have nr : nR m' = nR m := by unfold nR; rw [m1 59 (by decide) (by decide)]
  have ng : nGf m' = nGf m := by unfold nGf; rw [m1 60 (by decide) (by decide)]
  have na : nA m' = nA m := by unfold nA; rw [m1 70 (by decide) (by decide)]
  have nw : nW m' = nW m := by unfold nW; rw [m1 2 (by decide) (by decide)]
  have kdE : ∀ t, kd m' t = kd m t := fun t => by unfold kd; rw [ms 115 (by decide) (by decide)]
  refine ⟨⟨?_, h30, h1, ?_, ?_, ?_, ?_, ?_, ?_, ?_⟩, ?_, ?_, by rw [na]; exact ha, ?_⟩
  · rw [m1 2 (by decide) (by decide), nw]; exact hw.w
  · rw [m1 3 (by decide) (by decide), nk]; exact hw.k
  · rw [m1 4 (by decide) (by decide), nt]; exact hw.t
  · rw [m1 5 (by decide) (by decide), nf]; exact hw.f
  · rw [m1 59 (by decide) (by decide), nr]; exact hw.r
  · rw [m1 60 (by decide) (by decide), ng]; exact hw.g
  · rw [m1 70 (by decide) (by decide), na]; exact hw.a
  · intro t ht
    rw [nt] at ht
    rw [kdE, nk, ms 115 (by decide) (by decide)]
    exact hw.kd ht
  · unfold Wx at *
    simp only [kdE, nk, nt, nf, nr, ng, na, m1 6 (by decide) (by decide), m1 71 (by decide) (by decide), ms 115 (by decide) (by decide), ms 168 (by decide) (by decide), ms 118 (by decide) (by decide), ms 119 (by decide) (by decide), ms 123 (by decide) (by decide), ms 186 (by decide) (by decide), ms 178 (by decide) (by decide), ms 176 (by decide) (by decide), ms 113 (by decide) (by decide), ms 114 (by decide) (by decide), ms 125 (by decide) (by decide), ms 191 (by decide) (by decide), ms 109 (by decide) (by decide), ms 120 (by decide) (by decide), ms 117 (by decide) (by decide), ms 121 (by decide) (by decide), ms 122 (by decide) (by decide), ms 124 (by decide) (by decide), ms 129 (by decide) (by decide), ms 166 (by decide) (by decide), ms 177 (by decide) (by decide), ms 167 (by decide) (by decide), ms 187 (by decide) (by decide)]
    exact hx
  · unfold Wg at *
    simp only [nt, ng, ms 167 (by decide) (by decide)]
    exact hg
  · simp only [ms 187 (by decide) (by decide)]
    exact hk
theorem in_rules {c : Nat} {m m' : St} (hi : In c m) (_ : c < 512) {x : Int32} (q : RuM m x m') : In (c + 1) m' := by
  by_cases ok : okN m x
  · obtain ⟨n, hn, rfl⟩ := okN_n ok.1
    have q2 := q.2 ok
    rw [nI_clamp (by omega)] at q2
    by_cases e : (rPr m n).1 = 0
    · obtain ⟨ms, m1, g1, g30, _, _⟩ := q2.2 e
      have k16 : (rPr m n).2.1 ≤ 16 := by
        rcases prl_ok (rb_HB (m := m) hn.2) 17 0 0 (fun _ => (fN 0, fN 0)) (fun _ => 0) (Nat.zero_le n) rfl with z | z
        · exact z.2.1
        · exact absurd e z.1
      refine (hi.cong ms m1 ?_ ?_).up
      · have e0 : nTl m' = 0 := by unfold nTl; rw [g1]; rfl
        rw [g1, e0]
        exact ⟨rfl, Nat.zero_le _⟩
      · have e0 : nC m' = (rPr m n).2.1 := by unfold nC; rw [g30]; exact nI_clamp (by omega)
        rw [g30, e0]
        exact ⟨rfl, k16⟩
    · rw [q2.1 e]
      exact (in_len0 hi (T := 0) (Nat.zero_le _)).up
  · rw [q.1 ok]
    exact hi.up
