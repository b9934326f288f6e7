/-! halves made whole -/
def sp (m : St) (k t : Nat) : Prop := kd m t = k ∧ m 118 t = 0 ∧ ¬ isRec m t
noncomputable def whf (m : St) (k s t : Nat) : Nat := cif (sp m k t) (hsN m t s) 0
noncomputable def whS (m : St) (k s : Nat) : Nat := smN (whf m k s) (nT m)
noncomputable def whN (m : St) (k : Nat) : Nat → Nat
  | 0 => cnt (sp m k) (nT m)
  | s + 1 => cif (0 < pcN m k s ∧ whS m k s / pcN m k s < whN m k s) (whS m k s / pcN m k s) (whN m k s)
theorem whN_s (m : St) (k s : Nat) : whN m k (s + 1) = cif (0 < pcN m k s ∧ whS m k s / pcN m k s < whN m k s) (whS m k s / pcN m k s) (whN m k s) := rfl
theorem whN_le (m : St) (k : Nat) : ∀ s, whN m k s ≤ cnt (sp m k) (nT m)
  | 0 => Nat.le_refl _
  | s + 1 => by
    have ih := whN_le m k s
    by_cases q : 0 < pcN m k s ∧ whS m k s / pcN m k s < whN m k s
    · rw [whN_s, cif_t q]; omega
    · rw [whN_s, cif_f q]; exact ih
theorem whf_le {m : St} (hw : Wf m) (hx : Wx m) {k s t : Nat} (ht : t < nT m) (hs : s < 6) : whf m k s t ≤ 6 := by
  unfold whf
  have a := (hs_n hw hx ht hs).2
  have b := (pc_n hx (hw.kd ht).2 hs).2
  by_cases q : sp m k t
  · rw [cif_t q]; omega
  · rw [cif_f q]; omega
theorem whS_le {m : St} (hw : Wf m) (hx : Wx m) {k s : Nat} (hs : s < 6) {n : Nat} (hn : n ≤ nT m) : smN (whf m k s) n ≤ 96 := by
  have := smN_b (f := whf m k s) (B := 6) (n := n) (fun i hi => whf_le hw hx (by omega) hs)
  have := hw.t.2
  omega
/-- the best so far of those that P has, by g; the first of like ones -/
noncomputable def bsF (P : Nat → Prop) (g : Nat → Nat) : Nat → Option Nat
  | 0 => none
  | n + 1 => match bsF P g n with
    | none => cif (P n) (some n) none
    | some b => cif (P n ∧ g n < g b) (some n) (some b)
theorem bs_skip {P : Nat → Prop} {g : Nat → Nat} {n : Nat} (q : ¬ P n) : bsF P g (n + 1) = bsF P g n := by
  show (match bsF P g n with | none => cif (P n) (some n) none | some b => cif (P n ∧ g n < g b) (some n) (some b)) = _
  cases bsF P g n with
  | none => exact cif_f q
  | some b => exact cif_f (fun z => q z.1)
theorem bs_first {P : Nat → Prop} {g : Nat → Nat} {n : Nat} (e : bsF P g n = none) (q : P n) : bsF P g (n + 1) = some n := by
  show (match bsF P g n with | none => cif (P n) (some n) none | some b => cif (P n ∧ g n < g b) (some n) (some b)) = _
  rw [e]
  exact cif_t q
theorem bs_less {P : Nat → Prop} {g : Nat → Nat} {n b : Nat} (e : bsF P g n = some b) (q : P n) (z : g n < g b) : bsF P g (n + 1) = some n := by
  show (match bsF P g n with | none => cif (P n) (some n) none | some b => cif (P n ∧ g n < g b) (some n) (some b)) = _
  rw [e]
  exact cif_t ⟨q, z⟩
theorem bs_more {P : Nat → Prop} {g : Nat → Nat} {n b : Nat} (e : bsF P g n = some b) (z : ¬ g n < g b) : bsF P g (n + 1) = some b := by
  show (match bsF P g n with | none => cif (P n) (some n) none | some b => cif (P n ∧ g n < g b) (some n) (some b)) = _
  rw [e]
  exact cif_f (fun y => z y.2)
theorem bs_some {P : Nat → Prop} {g : Nat → Nat} : ∀ {n b : Nat}, bsF P g n = some b → b < n ∧ P b
  | 0, b, e => by cases e
  | n + 1, b, e => by
    by_cases q : P n
    · cases e1 : bsF P g n with
      | none =>
        rw [bs_first e1 q] at e
        cases e
        exact ⟨Nat.lt_succ_self _, q⟩
      | some c =>
        by_cases z : g n < g c
        · rw [bs_less e1 q z] at e
          cases e
          exact ⟨Nat.lt_succ_self _, q⟩
        · rw [bs_more e1 z] at e
          cases e
          obtain ⟨a1, a2⟩ := bs_some e1
          exact ⟨by omega, a2⟩
    · rw [bs_skip q] at e
      obtain ⟨a1, a2⟩ := bs_some e
      exact ⟨by omega, a2⟩
theorem bs_none {P : Nat → Prop} {g : Nat → Nat} : ∀ {n : Nat}, bsF P g n = none → ∀ t, t < n → ¬ P t
  | 0, _, t, h => absurd h (Nat.not_lt_zero t)
  | n + 1, e, t, h => by
    have q : ¬ P n := fun q => by
      cases e1 : bsF P g n with
      | none => rw [bs_first e1 q] at e; cases e
      | some c =>
        by_cases z : g n < g c
        · rw [bs_less e1 q z] at e; cases e
        · rw [bs_more e1 z] at e; cases e
    rw [bs_skip q] at e
    by_cases y : t = n
    · rw [y]; exact q
    · exact bs_none e t (by omega)
def oI (x : Option Nat) : Int32 := match x with
  | none => -1
  | some b => nI b
def oL (g : Nat → Nat) (x : Option Nat) : Int32 := match x with
  | none => nI 0
  | some b => nI (g b)
theorem oI_none {P : Nat → Prop} {g : Nat → Nat} {n : Nat} (hn : n < 1000) (e : oI (bsF P g n) = -1) : bsF P g n = none := by
  cases e1 : bsF P g n with
  | none => rfl
  | some b =>
    rw [e1] at e
    exact absurd e (nI_ne_neg (by have := (bs_some e1).1; omega))
theorem oI_some {P : Nat → Prop} {g : Nat → Nat} {n : Nat} (e : ¬ oI (bsF P g n) = -1) : ∃ b, bsF P g n = some b ∧ b < n ∧ P b := by
  cases e1 : bsF P g n with
  | none => rw [e1] at e; exact absurd rfl e
  | some b => exact ⟨b, rfl, bs_some e1⟩
/-- sets as numbers -/
theorem hasB_or {x : Int32} {b t : Nat} (hb : b < 32) (ht : t < 32) : hasB (x ||| ((1 : Int32) <<< (nI b &&& 31))) t ↔ hasB x t ∨ t = b := by
  rw [hasB_iff _ ht, hasB_iff _ ht, bt_or, bt_one hb, Bool.or_eq_true, decide_eq_true_eq]
theorem hasB_0 {t : Nat} (ht : t < 32) : ¬ hasB 0 t := by
  rw [hasB_iff _ ht, bt_0]
  decide
/-- the toys taken, and what lacks of them -/
noncomputable def wsF (m : St) (k : Nat) : Nat → Int32 × Nat
  | 0 => (0, 0)
  | i + 1 => match bsF (fun t => sp m k t ∧ ¬ hasB (wsF m k i).1 t) (lckN m) (nT m) with
    | none => wsF m k i
    | some b => ((wsF m k i).1 ||| ((1 : Int32) <<< (nI b &&& 31)), (wsF m k i).2 + lckN m b)
abbrev wsP (m : St) (k i t : Nat) : Prop := sp m k t ∧ ¬ hasB (wsF m k i).1 t
theorem ws_none {m : St} {k i : Nat} (e : bsF (wsP m k i) (lckN m) (nT m) = none) : wsF m k (i + 1) = wsF m k i := by
  show (match bsF (wsP m k i) (lckN m) (nT m) with | none => wsF m k i | some b => ((wsF m k i).1 ||| ((1 : Int32) <<< (nI b &&& 31)), (wsF m k i).2 + lckN m b)) = _
  rw [e]
theorem ws_some {m : St} {k i b : Nat} (e : bsF (wsP m k i) (lckN m) (nT m) = some b) : wsF m k (i + 1) = ((wsF m k i).1 ||| ((1 : Int32) <<< (nI b &&& 31)), (wsF m k i).2 + lckN m b) := by
  show (match bsF (wsP m k i) (lckN m) (nT m) with | none => wsF m k i | some b => ((wsF m k i).1 ||| ((1 : Int32) <<< (nI b &&& 31)), (wsF m k i).2 + lckN m b)) = _
  rw [e]
theorem cnt_mono {p q : Nat → Prop} : ∀ {n : Nat}, (∀ k, k < n → p k → q k) → cnt p n ≤ cnt q n
  | 0, _ => Nat.le_refl 0
  | n + 1, h => by
    have ih := cnt_mono (n := n) (fun k hk => h k (by omega))
    by_cases z : p n
    · rw [cnt_t z, cnt_t (h n (Nat.lt_succ_self n) z)]; omega
    · rw [cnt_f z]
      by_cases y : q n
      · rw [cnt_t y]; omega
      · rw [cnt_f y]; omega
theorem cnt_add1 {p q : Nat → Prop} {b : Nat} : ∀ {n : Nat}, b < n → ¬ p b → (∀ k, k < n → (q k ↔ p k ∨ k = b)) → cnt q n = cnt p n + 1
  | 0, h, _, _ => absurd h (Nat.not_lt_zero b)
  | n + 1, h, hb, hq => by
    by_cases e : b = n
    · subst e
      rw [cnt_t ((hq b (Nat.lt_succ_self b)).mpr (Or.inr rfl)), cnt_f hb, cnt_congr (q := p) (fun k hk => (hq k (by omega)).trans ⟨fun z => z.elim id (fun z => by omega), Or.inl⟩)]
    · have ih := cnt_add1 (n := n) (by omega) hb (fun k hk => hq k (by omega))
      have z : q n ↔ p n := (hq n (Nat.lt_succ_self n)).trans ⟨fun z => z.elim id (fun z => absurd z.symm e), Or.inl⟩
      by_cases y : p n
      · rw [cnt_t (z.mpr y), cnt_t y, ih]
      · rw [cnt_f (fun w => y (z.mp w)), cnt_f y, ih]
theorem smN_congr {f g : Nat → Nat} : ∀ {n : Nat}, (∀ k, k < n → f k = g k) → smN f n = smN g n
  | 0, _ => rfl
  | n + 1, h => by rw [smN_s, smN_s, smN_congr (n := n) (fun k hk => h k (by omega)), h n (Nat.lt_succ_self n)]
theorem smN_add1 {f g : Nat → Nat} {b x : Nat} : ∀ {n : Nat}, b < n → f b = 0 → g b = x → (∀ k, k < n → k ≠ b → g k = f k) → smN g n = smN f n + x
  | 0, h, _, _, _ => absurd h (Nat.not_lt_zero b)
  | n + 1, h, h1, h2, hq => by
    rw [smN_s, smN_s]
    by_cases e : b = n
    · subst e
      rw [h1, h2, smN_congr (f := g) (g := f) (fun k hk => hq k (by omega) (by omega)), Nat.add_zero]
    · rw [smN_add1 (n := n) (by omega) h1 h2 (fun k hk hn => hq k (by omega) hn), hq n (Nat.lt_succ_self n) (fun z => e z.symm)]
      omega
noncomputable abbrev wsL (m : St) (k i t : Nat) : Nat := cif (hasB (wsF m k i).1 t) (lckN m t) 0
theorem ws_inv {m : St} (hT : nT m ≤ 16) (k : Nat) : ∀ i, i ≤ cnt (sp m k) (nT m) → (∀ t, t < 32 → hasB (wsF m k i).1 t → t < nT m ∧ sp m k t) ∧ cnt (fun t => hasB (wsF m k i).1 t) (nT m) = i ∧ (wsF m k i).2 = smN (wsL m k i) (nT m) ∧ (i < cnt (sp m k) (nT m) → ∃ b, bsF (wsP m k i) (lckN m) (nT m) = some b)
  | i, hi => by
    have core : (∀ t, t < 32 → hasB (wsF m k i).1 t → t < nT m ∧ sp m k t) ∧ cnt (fun t => hasB (wsF m k i).1 t) (nT m) = i ∧ (wsF m k i).2 = smN (wsL m k i) (nT m) := by
      cases i with
      | zero =>
        refine ⟨fun t ht z => absurd z (hasB_0 ht), cnt_none (fun t ht => hasB_0 (by omega)), ?_⟩
        have e : smN (wsL m k 0) (nT m) = smN (fun _ => 0) (nT m) := smN_congr (fun t ht => cif_f (hasB_0 (by omega)))
        rw [e]
        have z : ∀ n, smN (fun _ => 0) n = 0 := fun n => by
          induction n with
          | zero => rfl
          | succ n ih => rw [smN_s, ih]
        rw [z]
        rfl
      | succ i =>
        obtain ⟨a1, a2, a3, a4⟩ := ws_inv hT k i (by omega)
        obtain ⟨b, hb⟩ := a4 (by omega)
        obtain ⟨b1, b2, b3⟩ := bs_some hb
        have e := ws_some hb
        have e1 : (wsF m k (i + 1)).1 = (wsF m k i).1 ||| ((1 : Int32) <<< (nI b &&& 31)) := by rw [e]
        have e2 : (wsF m k (i + 1)).2 = (wsF m k i).2 + lckN m b := by rw [e]
        have ho : ∀ t, t < 32 → (hasB (wsF m k (i + 1)).1 t ↔ hasB (wsF m k i).1 t ∨ t = b) := fun t ht => by rw [e1]; exact hasB_or (by omega) ht
        refine ⟨fun t ht z => ?_, ?_, ?_⟩
        · rcases (ho t ht).mp z with y | y
          · exact a1 t ht y
          · rw [y]; exact ⟨b1, b2⟩
        · rw [cnt_add1 b1 b3 (fun t ht => ho t (by omega)), a2]
        · rw [e2, a3]
          refine (smN_add1 (f := wsL m k i) (g := wsL m k (i + 1)) b1 (cif_f b3) (cif_t ((ho b (by omega)).mpr (Or.inr rfl))) (fun t ht hn => ?_)).symm
          by_cases y : hasB (wsF m k i).1 t
          · show cif _ _ _ = cif _ _ _
            rw [cif_t y, cif_t ((ho t (by omega)).mpr (Or.inl y))]
          · show cif _ _ _ = cif _ _ _
            rw [cif_f y, cif_f (fun z => ((ho t (by omega)).mp z).elim y hn)]
    refine ⟨core.1, core.2.1, core.2.2, fun hlt => ?_⟩
    cases e : bsF (wsP m k i) (lckN m) (nT m) with
    | some b => exact ⟨b, rfl⟩
    | none =>
      exfalso
      have q := bs_none e
      have z : cnt (sp m k) (nT m) ≤ cnt (fun t => hasB (wsF m k i).1 t) (nT m) := cnt_mono (fun t ht y => Classical.byContradiction fun w => q t ht ⟨y, w⟩)
      rw [core.2.1] at z
      omega
theorem ws_le {m : St} (hw : Wf m) (hx : Wx m) {k i : Nat} (hi : i ≤ cnt (sp m k) (nT m)) : (wsF m k i).2 ≤ 576 := by
  rw [(ws_inv hw.t.2 k i hi).2.2.1]
  have a := smN_b (f := wsL m k i) (B := 36) (n := nT m) (fun t ht => by
    have b := (lck_n hw hx ht).2
    by_cases y : hasB (wsF m k i).1 t
    · show cif _ _ _ ≤ _
      rw [cif_t y]; exact b
    · show cif _ _ _ ≤ _
      rw [cif_f y]; omega)
  have := hw.t.2
  omega
noncomputable def whA (m : St) (k : Nat) (x : Int32) : Int32 := cif (x = 0) (nI (whN m k 6)) (cif (x = nI 1) (nI (wsF m k (whN m k 6)).2) (wsF m k (whN m k 6)).1)
noncomputable def sWhole (m : St) (k0 x : Int32) : Int32 × St := cif ((∃ j : Nat, j < nK m ∧ k0 = nI j) ∧ 0 ≤ x ∧ x ≤ 2) (whA m k0.toNatClampNeg x, m) (-1, m)
