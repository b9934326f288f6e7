/-! toys matched to families -/
theorem cnt_inj {P : Nat → Prop} {m : Nat} : ∀ (n : Nat) (Q : Nat → Prop) (ψ : Nat → Nat), (∀ t, t < n → P t → ψ t < m ∧ Q (ψ t)) → (∀ s t, s < n → t < n → P s → P t → ψ s = ψ t → s = t) → cnt P n ≤ cnt Q m
  | 0, _, _, _, _ => Nat.zero_le _
  | n + 1, Q, ψ, h1, h2 => by
    by_cases p : P n
    · rw [cnt_t p]
      have q := h1 n (Nat.lt_succ_self n) p
      have ih := cnt_inj (P := P) (m := m) n (fun k => Q k ∧ k ≠ ψ n) ψ (fun t ht pt => ⟨(h1 t (by omega) pt).1, (h1 t (by omega) pt).2, fun e => by have := h2 t n (by omega) (by omega) pt p e; omega⟩) (fun s t hs ht => h2 s t (by omega) (by omega))
      have e : cnt Q m = cnt (fun k => Q k ∧ k ≠ ψ n) m + 1 := cnt_add1 (b := ψ n) q.1 (fun z => z.2 rfl) (fun k _ => ⟨fun z => if e : k = ψ n then Or.inr e else Or.inl ⟨z, e⟩, fun z => z.elim (fun y => y.1) (fun e => by rw [e]; exact q.2)⟩)
      omega
    · rw [cnt_f p]
      exact cnt_inj n Q ψ (fun t ht => h1 t (by omega)) (fun s t hs ht => h2 s t (by omega) (by omega))
theorem cnt_ex {p : Nat → Prop} : ∀ {n : Nat}, 0 < cnt p n → ∃ k, k < n ∧ p k := fun {n} h => Classical.byContradiction fun z => by
  rw [cnt_none (fun k hk pk => z ⟨k, hk, pk⟩)] at h
  exact absurd h (Nat.lt_irrefl 0)
theorem cnt_one {p : Nat → Prop} {n a b : Nat} (h : cnt p n ≤ 1) (ha : a < n) (hb : b < n) (pa : p a) (pb : p b) : a = b := by
  rcases Nat.lt_trichotomy a b with z | z | z
  · have := cnt_lt z pa
    have := cnt_lt hb pb
    omega
  · exact z
  · have := cnt_lt z pb
    have := cnt_lt ha pa
    omega
theorem cnt_sub {p q : Nat → Prop} : ∀ {n : Nat}, (∀ k, k < n → p k → q k) → cnt p n = cnt q n → ∀ k, k < n → q k → p k
  | 0, _, _, k, hk, _ => absurd hk (Nat.not_lt_zero k)
  | n + 1, h, e, k, hk, qk => by
    have mo := cnt_mono (p := p) (q := q) (n := n) (fun j hj => h j (by omega))
    by_cases pn : p n
    · rw [cnt_t pn, cnt_t (h n (by omega) pn)] at e
      by_cases z : k = n
      · rw [z]; exact pn
      · have e' : cnt p n = cnt q n := by omega
        exact cnt_sub (p := p) (q := q) (n := n) (fun j hj => h j (by omega)) e' k (by omega) qk
    · by_cases qn : q n
      · rw [cnt_f pn, cnt_t qn] at e
        omega
      · rw [cnt_f pn, cnt_f qn] at e
        by_cases z : k = n
        · rw [z] at qk; exact absurd qk qn
        · have e' : cnt p n = cnt q n := by omega
          exact cnt_sub (p := p) (q := q) (n := n) (fun j hj => h j (by omega)) e' k (by omega) qk
def Mb (A : Nat → Nat → Prop) (F T : Nat) (U : Nat → Prop) : Prop := ∃ φ : Nat → Nat, (∀ t, t < T → U t → φ t < F ∧ A t (φ t)) ∧ ∀ s t, s < T → t < T → U s → U t → φ s = φ t → s = t
abbrev tb (x : Nat) : Nat → Prop := fun t => x.testBit t = true
def mxP (A : Nat → Nat → Prop) (F T : Nat) (S : Nat → Prop) (k : Nat) : Prop := ∃ W : Nat → Prop, (∀ t, t < T → W t → S t) ∧ Mb A F T W ∧ cnt W T = k
noncomputable def mxd (A : Nat → Nat → Prop) (F T : Nat) (S : Nat → Prop) : Nat → Nat
  | 0 => 0
  | k + 1 => cif (mxP A F T S (k + 1)) (k + 1) (mxd A F T S k)
noncomputable def mx (A : Nat → Nat → Prop) (F T : Nat) (S : Nat → Prop) : Nat := mxd A F T S T
theorem mxP_0 (A : Nat → Nat → Prop) (F T : Nat) (S : Nat → Prop) : mxP A F T S 0 := ⟨fun _ => False, fun _ _ z => z.elim, ⟨fun _ => 0, fun _ _ z => z.elim, fun _ _ _ _ z => z.elim⟩, cnt_none (fun _ _ z => z)⟩
theorem mxd_is (A : Nat → Nat → Prop) (F T : Nat) (S : Nat → Prop) : ∀ n, mxP A F T S (mxd A F T S n) ∧ ∀ k, k ≤ n → mxP A F T S k → k ≤ mxd A F T S n
  | 0 => ⟨mxP_0 A F T S, fun k hk _ => hk⟩
  | n + 1 => by
    have ih := mxd_is A F T S n
    show mxP A F T S (cif _ _ _) ∧ ∀ k, k ≤ n + 1 → mxP A F T S k → k ≤ cif _ _ _
    by_cases z : mxP A F T S (n + 1)
    · rw [cif_t z]; exact ⟨z, fun k hk _ => hk⟩
    · rw [cif_f z]
      refine ⟨ih.1, fun k hk q => ih.2 k ?_ q⟩
      exact Nat.le_of_lt_succ (Nat.lt_of_le_of_ne hk (fun e => z (by rw [e] at q; exact q)))
theorem mx_in (A : Nat → Nat → Prop) (F T : Nat) (S : Nat → Prop) : mxP A F T S (mx A F T S) := (mxd_is A F T S T).1
theorem mx_up {A : Nat → Nat → Prop} {F T : Nat} {S W : Nat → Prop} (h1 : ∀ t, t < T → W t → S t) (h2 : Mb A F T W) : cnt W T ≤ mx A F T S := (mxd_is A F T S T).2 _ (cnt_le _ _) ⟨W, h1, h2, rfl⟩
theorem mx_le (A : Nat → Nat → Prop) (F T : Nat) (S : Nat → Prop) : mx A F T S ≤ cnt S T := by
  obtain ⟨W, h1, _, h3⟩ := mx_in A F T S
  rw [← h3]
  exact cnt_mono h1
theorem mx_eq {A : Nat → Nat → Prop} {F T : Nat} {S : Nat → Prop} (h : Mb A F T S) : mx A F T S = cnt S T := Nat.le_antisymm (mx_le A F T S) (mx_up (fun _ _ z => z) h)
theorem mx_of {A : Nat → Nat → Prop} {F T : Nat} {S : Nat → Prop} {k : Nat} (h1 : mxP A F T S k) (h2 : ∀ W : Nat → Prop, (∀ t, t < T → W t → S t) → Mb A F T W → cnt W T ≤ k) : mx A F T S = k := by
  refine Nat.le_antisymm ?_ ?_
  · obtain ⟨W, a, b, c⟩ := mx_in A F T S
    rw [← c]; exact h2 W a b
  · obtain ⟨W, a, b, c⟩ := h1
    rw [← c]; exact mx_up a b
/-- sets that a van may take, and which of them is the better -/
def vd (A : Nat → Nat → Prop) (F T n x : Nat) : Prop := x < p2 T ∧ cnt (tb x) T ≤ n ∧ ∀ t, t < T → tb x t → ∃ f, f < F ∧ A t f
def obt (A : Nat → Nat → Prop) (F T x y : Nat) : Prop := mx A F T (tb y) < mx A F T (tb x) ∨ (mx A F T (tb y) = mx A F T (tb x) ∧ (cnt (tb x) T < cnt (tb y) T ∨ (cnt (tb x) T = cnt (tb y) T ∧ x ≤ y)))
def isO (A : Nat → Nat → Prop) (F T n x : Nat) : Prop := vd A F T n x ∧ ∀ y, vd A F T n y → obt A F T x y
theorem isO_u {A : Nat → Nat → Prop} {F T n x y : Nat} (hx : isO A F T n x) (hy : isO A F T n y) : x = y := by
  have a := hx.2 y hy.1
  have b := hy.2 x hx.1
  unfold obt at a b
  omega
noncomputable def vnO (A : Nat → Nat → Prop) (F T n : Nat) : Nat := Classical.epsilon (isO A F T n)
theorem vnO_of {A : Nat → Nat → Prop} {F T n x : Nat} (hx : isO A F T n x) : vnO A F T n = x := isO_u (Classical.epsilon_spec (p := isO A F T n) ⟨x, hx⟩) hx
theorem vtb_hi {x T : Nat} (h : x < p2 T) : ¬ tb x T := fun z => by
  have q := Nat.testBit_lt_two_pow h
  rw [show x.testBit T = true from z] at q
  cases q
theorem vtb_ge {x T : Nat} (h : x < p2 (T + 1)) (q : p2 T ≤ x) : ∃ x', x' < p2 T ∧ x = p2 T + x' ∧ tb x T ∧ ∀ j, j < T → (tb x j ↔ tb x' j) := by
  have e := p2_s T
  obtain ⟨x', rfl⟩ : ∃ x', x = p2 T + x' := ⟨x - p2 T, by omega⟩
  have h' : x' < p2 T := by omega
  refine ⟨x', h', rfl, ?_, fun j hj => ?_⟩
  · show (2 ^ T + x').testBit T = true
    rw [Nat.testBit_two_pow_add_eq, Nat.testBit_lt_two_pow h']; rfl
  · show (2 ^ T + x').testBit j = true ↔ _
    rw [Nat.testBit_two_pow_add_gt hj]
theorem num_le : ∀ {T x y : Nat}, x < p2 T → y < p2 T → cnt (tb x) T = cnt (tb y) T → (∀ t, t ≤ T → cnt (tb y) t ≤ cnt (tb x) t) → x ≤ y
  | 0, x, y, hx, _, _, _ => by have : p2 0 = 1 := rfl; omega
  | T + 1, x, y, hx, hy, e, d => by
    have dT := d T (by omega)
    by_cases a : p2 T ≤ x
    · obtain ⟨x', x1, rfl, x3, x4⟩ := vtb_ge hx a
      rw [cnt_t x3] at e
      by_cases b : p2 T ≤ y
      · obtain ⟨y', y1, rfl, y3, y4⟩ := vtb_ge hy b
        rw [cnt_t y3] at e
        have ex : ∀ t, t ≤ T → cnt (tb (p2 T + x')) t = cnt (tb x') t := fun t ht => cnt_congr (fun k hk => x4 k (by omega))
        have ey : ∀ t, t ≤ T → cnt (tb (p2 T + y')) t = cnt (tb y') t := fun t ht => cnt_congr (fun k hk => y4 k (by omega))
        have q := num_le x1 y1 (by rw [← ex T (by omega), ← ey T (by omega)]; omega) (fun t ht => by rw [← ex t ht, ← ey t ht]; exact d t (by omega))
        omega
      · rw [cnt_f (vtb_hi (show y < p2 T by omega))] at e
        omega
    · by_cases b : p2 T ≤ y
      · omega
      · have hx' : x < p2 T := by omega
        have hy' : y < p2 T := by omega
        rw [cnt_f (vtb_hi hx'), cnt_f (vtb_hi hy')] at e
        exact num_le hx' hy' (by omega) (fun t ht => d t (by omega))
theorem gr_opt {A : Nat → Nat → Prop} {F T n x : Nat} (hx : x < p2 T) (hm : Mb A F T (tb x)) (hn : cnt (tb x) T ≤ n) (dm : ∀ U : Nat → Prop, Mb A F T U → cnt U T ≤ n → ∀ t, t ≤ T → cnt U t ≤ cnt (tb x) t) : isO A F T n x := by
  have ex := mx_eq hm
  refine ⟨⟨hx, hn, fun t ht q => ?_⟩, fun y hy => ?_⟩
  · obtain ⟨φ, h1, _⟩ := hm
    exact ⟨φ t, h1 t ht q⟩
  · obtain ⟨W, a, b, c⟩ := mx_in A F T (tb y)
    have w1 : cnt W T ≤ cnt (tb y) T := cnt_mono a
    have w2 := dm W b (Nat.le_trans w1 hy.2.1) T (Nat.le_refl T)
    unfold obt
    rw [ex, ← c]
    by_cases z : cnt W T < cnt (tb x) T
    · exact Or.inl z
    · right
      refine ⟨by omega, ?_⟩
      by_cases z2 : cnt (tb x) T < cnt (tb y) T
      · exact Or.inl z2
      · have z3 : cnt (tb x) T = cnt (tb y) T := by omega
        have wy := cnt_sub a (by omega)
        have my : Mb A F T (tb y) := by
          obtain ⟨φ, h1, h2⟩ := b
          exact ⟨φ, fun t ht q => h1 t ht (wy t ht q), fun s t hs ht q1 q2 => h2 s t hs ht (wy s hs q1) (wy t ht q2)⟩
        exact Or.inr ⟨z3, num_le hx hy.1 z3 (dm (tb y) my (by omega))⟩
/-- a matching under way -/
def clo (A : Nat → Nat → Prop) (o : Nat → Option Nat) (X : Nat → Prop) : Prop := ∀ f, X f → f < 10 ∧ ∃ w, o f = some w ∧ ∀ g, g < 10 → A w g → X g
def GI (A : Nat → Nat → Prop) (t : Nat) (o : Nat → Option Nat) (g : Nat → Prop) : Prop := (∀ f w, f < 10 → o f = some w → A w f) ∧ (∀ w, g w → cnt (fun f => o f = some w) 10 = 1) ∧ (∀ w, ¬ g w → cnt (fun f => o f = some w) 10 = 0) ∧ (∀ w, g w → w < t)
theorem GI.ok {A : Nat → Nat → Prop} {t : Nat} {o : Nat → Option Nat} {g : Nat → Prop} (kk : GI A t o g) : ∀ f w, f < 10 → o f = some w → A w f := kk.1
theorem GI.one {A : Nat → Nat → Prop} {t : Nat} {o : Nat → Option Nat} {g : Nat → Prop} (kk : GI A t o g) : ∀ w, g w → cnt (fun f => o f = some w) 10 = 1 := kk.2.1
theorem GI.non {A : Nat → Nat → Prop} {t : Nat} {o : Nat → Option Nat} {g : Nat → Prop} (kk : GI A t o g) : ∀ w, ¬ g w → cnt (fun f => o f = some w) 10 = 0 := kk.2.2.1
theorem GI.lt {A : Nat → Nat → Prop} {t : Nat} {o : Nat → Option Nat} {g : Nat → Prop} (kk : GI A t o g) : ∀ w, g w → w < t := kk.2.2.2
def GX (A : Nat → Nat → Prop) (t : Nat) (o : Nat → Option Nat) (g : Nat → Prop) : Prop := ∃ X : Nat → Prop, clo A o X ∧ ∀ r, r < t → ¬ g r → ∀ f, f < 10 → A r f → X f
theorem GI.g {A : Nat → Nat → Prop} {t : Nat} {o : Nat → Option Nat} {g : Nat → Prop} (k : GI A t o g) {f w : Nat} (hf : f < 10) (e : o f = some w) : g w := Classical.byContradiction fun z => by
  have q := cnt_lt (p := fun f => o f = some w) hf e
  rw [k.non w z] at q
  exact absurd q (Nat.not_lt_zero _)
theorem GI.u {A : Nat → Nat → Prop} {t : Nat} {o : Nat → Option Nat} {g : Nat → Prop} (k : GI A t o g) {f f' w : Nat} (hf : f < 10) (hf' : f' < 10) (e : o f = some w) (e' : o f' = some w) : f = f' := cnt_one (p := fun f => o f = some w) (Nat.le_of_eq (k.one w (k.g hf e))) hf hf' e e'
theorem GI.ex {A : Nat → Nat → Prop} {t : Nat} {o : Nat → Option Nat} {g : Nat → Prop} (k : GI A t o g) {w : Nat} (h : g w) : ∃ f, f < 10 ∧ o f = some w := cnt_ex (by rw [k.one w h]; exact Nat.one_pos)
theorem GI.mb {A : Nat → Nat → Prop} {t T : Nat} {o : Nat → Option Nat} {g : Nat → Prop} (k : GI A t o g) : Mb A 10 T g := by
  refine ⟨fun w => Classical.epsilon fun f => f < 10 ∧ o f = some w, fun w _ h => ?_, fun a b _ _ h1 h2 e => ?_⟩
  · have q := Classical.epsilon_spec (k.ex h)
    exact ⟨q.1, k.ok _ _ q.1 q.2⟩
  · have q1 := Classical.epsilon_spec (k.ex h1)
    have q2 := Classical.epsilon_spec (k.ex h2)
    try simp only at e
    rw [e] at q1
    exact Option.some.inj (q1.2.symm.trans q2.2)
theorem GI.dom {A : Nat → Nat → Prop} {t T : Nat} {o : Nat → Option Nat} {g : Nat → Prop} (k : GI A t o g) (kx : GX A t o g) (htT : t ≤ T) {U : Nat → Prop} (hU : Mb A 10 T U) : cnt U t ≤ cnt g t := by
  obtain ⟨X, c, r⟩ := kx
  obtain ⟨φ, f1, f2⟩ := hU
  have key : ∀ w, w < t → U w → ∃ v, (v < t ∧ g v) ∧ ((v = w ∧ ∀ f, f < 10 → o f = some w → ¬ X f) ∨ (X (φ w) ∧ o (φ w) = some v)) := fun w hw uw => by
    by_cases z : g w ∧ ∀ f, f < 10 → o f = some w → ¬ X f
    · exact ⟨w, ⟨hw, z.1⟩, Or.inl ⟨rfl, z.2⟩⟩
    · have xf : X (φ w) := by
        have q := f1 w (by omega) uw
        by_cases gw : g w
        · obtain ⟨f, hf, e, xf⟩ : ∃ f, f < 10 ∧ o f = some w ∧ X f := Classical.byContradiction fun y => z ⟨gw, fun f hf e xf => y ⟨f, hf, e, xf⟩⟩
          obtain ⟨_, w', e', n⟩ := c f xf
          rw [e] at e'
          rw [← Option.some.inj e'] at n
          exact n _ q.1 q.2
        · exact r w hw gw _ q.1 q.2
      obtain ⟨hf, v, e, _⟩ := c _ xf
      have gv := k.g hf e
      exact ⟨v, ⟨k.lt v gv, gv⟩, Or.inr ⟨xf, e⟩⟩
  refine cnt_inj t g (fun w => Classical.epsilon fun v => (v < t ∧ g v) ∧ ((v = w ∧ ∀ f, f < 10 → o f = some w → ¬ X f) ∨ (X (φ w) ∧ o (φ w) = some v))) (fun w hw uw => (Classical.epsilon_spec (key w hw uw)).1) (fun a b ha hb ua ub e => ?_)
  have qa := (Classical.epsilon_spec (key a ha ua)).2
  have qb := (Classical.epsilon_spec (key b hb ub)).2
  try simp only at e
  rw [e] at qa
  generalize Classical.epsilon (fun v => (v < t ∧ g v) ∧ ((v = b ∧ ∀ f, f < 10 → o f = some b → ¬ X f) ∨ (X (φ b) ∧ o (φ b) = some v))) = v at qa qb
  rcases qa with ⟨ea, na⟩ | ⟨xa, oa⟩
  · rcases qb with ⟨eb, nb⟩ | ⟨xb, ob⟩
    · exact ea.symm.trans eb
    · rw [ea] at ob
      exact absurd xb (na _ (c _ xb).1 ob)
  · rcases qb with ⟨eb, nb⟩ | ⟨xb, ob⟩
    · rw [eb] at oa
      exact absurd xa (nb _ (c _ xa).1 oa)
    · exact f2 a b (by omega) (by omega) ua ub (k.u (c _ xa).1 (c _ xb).1 oa ob)
/-- one more toy -/
def upo (o : Nat → Option Nat) (f u : Nat) : Nat → Option Nat := fun i => if i = f then some u else o i
theorem upo_s (o : Nat → Option Nat) (f u : Nat) : upo o f u f = some u := if_pos rfl
theorem upo_n (o : Nat → Option Nat) {f i : Nat} (u : Nat) (h : i ≠ f) : upo o f u i = o i := if_neg h
theorem cnt_upo {N : Nat} (o : Nat → Option Nat) {f : Nat} (u w : Nat) (hf : f < N) : cnt (fun i => upo o f u i = some w) N + (if o f = some w then 1 else 0) = cnt (fun i => o i = some w) N + (if u = w then 1 else 0) := by
  have b1 : cnt (fun i => upo o f u i = some w) N = cnt (fun i => i ≠ f ∧ o i = some w) N + (if u = w then 1 else 0) := by
    by_cases z : u = w
    · rw [if_pos z]
      refine cnt_add1 (b := f) hf (fun q => q.1 rfl) (fun k _ => ?_)
      by_cases y : k = f
      · rw [y, upo_s, z]; exact ⟨fun _ => Or.inr rfl, fun _ => rfl⟩
      · rw [upo_n _ _ y]; exact ⟨fun q => Or.inl ⟨y, q⟩, fun q => q.elim (fun q => q.2) (fun q => absurd q y)⟩
    · rw [if_neg z]
      refine cnt_congr (fun k _ => ?_)
      by_cases y : k = f
      · rw [y, upo_s]; exact ⟨fun q => absurd (Option.some.inj q) z, fun q => absurd rfl q.1⟩
      · rw [upo_n _ _ y]; exact ⟨fun q => ⟨y, q⟩, fun q => q.2⟩
  have b2 : cnt (fun i => o i = some w) N = cnt (fun i => i ≠ f ∧ o i = some w) N + (if o f = some w then 1 else 0) := by
    by_cases z : o f = some w
    · rw [if_pos z]
      refine cnt_add1 (b := f) hf (fun q => q.1 rfl) (fun k _ => ?_)
      by_cases y : k = f
      · rw [y]; exact ⟨fun _ => Or.inr rfl, fun _ => z⟩
      · exact ⟨fun q => Or.inl ⟨y, q⟩, fun q => q.elim (fun q => q.2) (fun q => absurd q y)⟩
    · rw [if_neg z]
      refine cnt_congr (fun k _ => ?_)
      by_cases y : k = f
      · rw [y]; exact ⟨fun q => absurd q z, fun q => absurd rfl q.1⟩
      · exact ⟨fun q => ⟨y, q⟩, fun q => q.2⟩
  omega
def Su (A : Nat → Nat → Prop) (s : Nat → Prop) (u : Nat) (o o' : Nat → Option Nat) : Prop := (∀ f, s f → o' f = o f) ∧ (∀ f w, f < 10 → o' f = some w → o f = some w ∨ A w f) ∧ (∀ w, cnt (fun f => o' f = some w) 10 = cnt (fun f => o f = some w) 10 + (if u = w then 1 else 0)) ∧ (∀ X, clo A o X → (∃ f, f < 10 ∧ A u f ∧ ¬ X f) ∧ ∀ f, X f → o' f = o f)
theorem Su.k {A : Nat → Nat → Prop} {s : Nat → Prop} {u : Nat} {o o' : Nat → Option Nat} (kk : Su A s u o o') : ∀ f, s f → o' f = o f := kk.1
theorem Su.v {A : Nat → Nat → Prop} {s : Nat → Prop} {u : Nat} {o o' : Nat → Option Nat} (kk : Su A s u o o') : ∀ f w, f < 10 → o' f = some w → o f = some w ∨ A w f := kk.2.1
theorem Su.c {A : Nat → Nat → Prop} {s : Nat → Prop} {u : Nat} {o o' : Nat → Option Nat} (kk : Su A s u o o') : ∀ w, cnt (fun f => o' f = some w) 10 = cnt (fun f => o f = some w) 10 + (if u = w then 1 else 0) := kk.2.2.1
theorem Su.x {A : Nat → Nat → Prop} {s : Nat → Prop} {u : Nat} {o o' : Nat → Option Nat} (kk : Su A s u o o') : ∀ X, clo A o X → (∃ f, f < 10 ∧ A u f ∧ ¬ X f) ∧ ∀ f, X f → o' f = o f := kk.2.2.2
theorem Su.mono {A : Nat → Nat → Prop} {s s' : Nat → Prop} {u : Nat} {o o' : Nat → Option Nat} (k : Su A s' u o o') (h : ∀ f, s f → s' f) : Su A s u o o' := ⟨fun f z => k.k f (h f z), k.v, k.c, k.x⟩
theorem Su.base {A : Nat → Nat → Prop} {s : Nat → Prop} {u f : Nat} {o : Nat → Option Nat} (hf : f < 10) (a : A u f) (n : ¬ s f) (e : o f = none) : Su A s u o (upo o f u) := by
  refine ⟨fun g z => upo_n _ _ (fun y => n (y ▸ z)), fun g w hg q => ?_, fun w => ?_, fun X c => ?_⟩
  · by_cases y : g = f
    · rw [y, upo_s] at q
      rw [← Option.some.inj q, y]; exact Or.inr a
    · rw [upo_n _ _ y] at q
      exact Or.inl q
  · have q := cnt_upo (N := 10) o u w hf
    rw [e, if_neg (by simp)] at q
    omega
  · have nx : ¬ X f := fun z => by
      obtain ⟨_, w, ew, _⟩ := c f z
      rw [e] at ew
      cases ew
    exact ⟨⟨f, hf, a, nx⟩, fun g z => upo_n _ _ (fun y => nx (y ▸ z))⟩
theorem Su.step {A : Nat → Nat → Prop} {s : Nat → Prop} {u f v : Nat} {o o' : Nat → Option Nat} (hf : f < 10) (a : A u f) (n : ¬ s f) (e : o f = some v) (k : Su A (fun g => s g ∨ g = f) v o o') : Su A s u o (upo o' f u) := by
  have ef : o' f = some v := (k.k f (Or.inr rfl)).trans e
  refine ⟨fun g z => (upo_n o' u (fun y : g = f => n (y ▸ z))).trans (k.k g (Or.inl z)), fun g w hg q => ?_, fun w => ?_, fun X c => ?_⟩
  · by_cases y : g = f
    · rw [y, upo_s] at q
      rw [← Option.some.inj q, y]; exact Or.inr a
    · rw [upo_n _ _ y] at q
      exact k.v g w hg q
  · have q := cnt_upo (N := 10) o' u w hf
    have q2 := k.c w
    rw [ef] at q
    by_cases y : v = w
    · rw [if_pos (congrArg some y)] at q
      rw [if_pos y] at q2
      omega
    · rw [if_neg (fun z => y (Option.some.inj z))] at q
      rw [if_neg y] at q2
      omega
  · have kx := k.x X c
    have nx : ¬ X f := fun z => by
      obtain ⟨_, w, ew, nw⟩ := c f z
      rw [e] at ew
      rw [← Option.some.inj ew] at nw
      obtain ⟨g, hg, ag, ng⟩ := kx.1
      exact ng (nw g hg ag)
    exact ⟨⟨f, hf, a, nx⟩, fun g z => (upo_n o' u (fun y : g = f => nx (y ▸ z))).trans (kx.2 g z)⟩
/-- none found, up to family i -/
def Fa (A : Nat → Nat → Prop) (s : Nat → Prop) (u i : Nat) (o : Nat → Option Nat) (s' : Nat → Prop) : Prop := (∀ f, s f → s' f) ∧ (∀ f, f < i → A u f → s' f) ∧ (∀ f, s' f → s f ∨ (f < 10 ∧ ∃ w, o f = some w ∧ ∀ g, g < 10 → A w g → s' g))
theorem Fa.m {A : Nat → Nat → Prop} {s : Nat → Prop} {u i : Nat} {o : Nat → Option Nat} {s' : Nat → Prop} (kk : Fa A s u i o s') : ∀ f, s f → s' f := kk.1
theorem Fa.a {A : Nat → Nat → Prop} {s : Nat → Prop} {u i : Nat} {o : Nat → Option Nat} {s' : Nat → Prop} (kk : Fa A s u i o s') : ∀ f, f < i → A u f → s' f := kk.2.1
theorem Fa.n {A : Nat → Nat → Prop} {s : Nat → Prop} {u i : Nat} {o : Nat → Option Nat} {s' : Nat → Prop} (kk : Fa A s u i o s') : ∀ f, s' f → s f ∨ (f < 10 ∧ ∃ w, o f = some w ∧ ∀ g, g < 10 → A w g → s' g) := kk.2.2
theorem Fa.z {A : Nat → Nat → Prop} {s : Nat → Prop} {u : Nat} {o : Nat → Option Nat} : Fa A s u 0 o s := ⟨fun _ z => z, fun f h => absurd h (Nat.not_lt_zero f), fun _ z => Or.inl z⟩
theorem Fa.skip {A : Nat → Nat → Prop} {s s' : Nat → Prop} {u i : Nat} {o : Nat → Option Nat} (k : Fa A s u i o s') (h : A u i → s' i) : Fa A s u (i + 1) o s' := ⟨k.m, fun f hf a => if e : f = i then by rw [e] at a ⊢; exact h a else k.a f (by omega) a, k.n⟩
theorem Fa.step {A : Nat → Nat → Prop} {s s' s2 : Nat → Prop} {u i v : Nat} {o : Nat → Option Nat} (hi : i < 10) (k : Fa A s u i o s') (e : o i = some v) (q : Fa A (fun g => s' g ∨ g = i) v 10 o s2) : Fa A s u (i + 1) o s2 := by
  refine ⟨fun f z => q.m f (Or.inl (k.m f z)), fun f hf a => ?_, fun f z => ?_⟩
  · by_cases y : f = i
    · exact q.m f (Or.inr y)
    · exact q.m f (Or.inl (k.a f (by omega) a))
  · rcases q.n f z with (z1 | z1) | z1
    · rcases k.n f z1 with y | ⟨y1, w, y2, y3⟩
      · exact Or.inl y
      · exact Or.inr ⟨y1, w, y2, fun g hg a => q.m g (Or.inl (y3 g hg a))⟩
    · rw [z1]; exact Or.inr ⟨hi, v, e, fun g hg a => q.a g hg a⟩
    · exact Or.inr z1
theorem GI.yes {A : Nat → Nat → Prop} {t : Nat} {o o' : Nat → Option Nat} {g : Nat → Prop} (k : GI A t o g) (kx : GX A t o g) {s : Nat → Prop} (q : Su A s t o o') : GI A (t + 1) o' (fun w => g w ∨ w = t) ∧ GX A (t + 1) o' (fun w => g w ∨ w = t) := by
  have nt : ¬ g t := fun z => Nat.lt_irrefl t (k.lt t z)
  refine ⟨⟨fun f w hf e => (q.v f w hf e).elim (k.ok f w hf) id, fun w z => ?_, fun w z => ?_, fun w z => ?_⟩, ?_⟩
  · rw [q.c w]
    by_cases y : t = w
    · rw [if_pos y, ← y, k.non t nt]
    · rw [if_neg y, k.one w (z.resolve_right (fun e => y e.symm))]
  · rw [q.c w, if_neg (fun y => z (Or.inr y.symm)), k.non w (fun y => z (Or.inl y))]
  · rcases z with z | z
    · exact Nat.lt_succ_of_lt (k.lt w z)
    · omega
  · obtain ⟨X, c, r⟩ := kx
    have kq := (q.x X c).2
    refine ⟨X, fun f z => ?_, fun r' hr nr f hf a => r r' (Nat.lt_of_le_of_ne (Nat.le_of_lt_succ hr) (fun y => nr (Or.inr y))) (fun y => nr (Or.inl y)) f hf a⟩
    rw [kq f z]; exact c f z
theorem GI.no {A : Nat → Nat → Prop} {t : Nat} {o : Nat → Option Nat} {g : Nat → Prop} (k : GI A t o g) (kx : GX A t o g) {s : Nat → Prop} (q : Fa A (fun _ => False) t 10 o s) : GI A (t + 1) o g ∧ GX A (t + 1) o g := by
  refine ⟨⟨k.ok, k.one, k.non, fun w z => Nat.lt_succ_of_lt (k.lt w z)⟩, ?_⟩
  obtain ⟨X, c, r⟩ := kx
  refine ⟨fun f => X f ∨ s f, fun f z => ?_, fun r' hr nr f hf a => ?_⟩
  · rcases z with z | z
    · obtain ⟨h, w, e, n⟩ := c f z
      exact ⟨h, w, e, fun g hg a => Or.inl (n g hg a)⟩
    · rcases q.n f z with y | ⟨h, w, e, n⟩
      · exact y.elim
      · exact ⟨h, w, e, fun g hg a => Or.inr (n g hg a)⟩
  · by_cases y : r' = t
    · rw [y] at a; exact Or.inr (q.a f hf a)
    · exact Or.inl (r r' (by omega) nr f hf a)
theorem GI.start (A : Nat → Nat → Prop) : GI A 0 (fun _ => none) (fun _ => False) ∧ GX A 0 (fun _ => none) (fun _ => False) := ⟨⟨fun _ _ _ e => (by cases e), fun _ z => z.elim, fun w _ => cnt_none (fun _ _ e => by cases e), fun _ z => z.elim⟩, fun _ => False, fun _ z => z.elim, fun r h => absurd h (Nat.not_lt_zero r)⟩
