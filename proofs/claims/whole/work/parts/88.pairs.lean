/-! the reference's pairs: subsets of S as numbers of their places in S -/
def UX (S x : Nat) (t : Nat) : Prop := tb S t ∧ tb x (cnt (tb S) t)
theorem ux_cnt (S x : Nat) : ∀ t, cnt (UX S x) t = cnt (tb x) (cnt (tb S) t)
  | 0 => rfl
  | t + 1 => by
    have ih := ux_cnt S x t
    by_cases z : tb S t
    · rw [cnt_t z]
      by_cases y : tb x (cnt (tb S) t)
      · rw [cnt_t (p := UX S x) ⟨z, y⟩, cnt_t y, ih]
      · rw [cnt_f (p := UX S x) (fun q => y q.2), cnt_f y, ih]
    · rw [cnt_f z, cnt_f (p := UX S x) (fun q => z q.1), ih, Nat.add_zero, Nat.add_zero]
theorem ux_all (S : Nat) (W : Nat → Prop) : ∀ t, ∃ x, x < p2 (cnt (tb S) t) ∧ ∀ t', t' < t → (UX S x t' ↔ tb S t' ∧ W t')
  | 0 => ⟨0, p2_pos _, fun t' h => absurd h (Nat.not_lt_zero t')⟩
  | t + 1 => by
    obtain ⟨x, hx, q⟩ := ux_all S W t
    by_cases z : tb S t
    · by_cases w : W t
      · refine ⟨p2 (cnt (tb S) t) + x, by rw [cnt_t z, p2_s]; omega, fun t' h => ?_⟩
        unfold UX
        rw [tb_addf hx]
        by_cases e : t' = t
        · rw [e]; exact ⟨fun _ => ⟨z, w⟩, fun _ => ⟨z, Or.inr rfl⟩⟩
        · have ht : t' < t := by omega
          have qq := q t' ht
          unfold UX at qq
          rw [← qq]
          refine and_congr_right (fun st => ⟨fun y => y.resolve_right (fun y => ?_), Or.inl⟩)
          have := cnt_lt ht st
          omega
      · refine ⟨x, by rw [cnt_t z, p2_s]; omega, fun t' h => ?_⟩
        by_cases e : t' = t
        · rw [e]; exact ⟨fun y => absurd y.2 (vtb_hi hx), fun y => absurd y.2 w⟩
        · exact q t' (by omega)
    · refine ⟨x, by rw [cnt_f z]; exact hx, fun t' h => ?_⟩
      by_cases e : t' = t
      · rw [e]; exact ⟨fun y => absurd y.1 z, fun y => absurd y.1 z⟩
      · exact q t' (by omega)
theorem tb_orp (x i j : Nat) : tb (x ||| p2 i) j ↔ tb x j ∨ j = i := by
  show (x ||| 2 ^ i).testBit j = true ↔ _
  rw [Nat.testBit_or, Nat.testBit_two_pow, Bool.or_eq_true, decide_eq_true_eq]
  exact or_congr Iff.rfl ⟨Eq.symm, Eq.symm⟩
theorem tb_xop (x i j : Nat) (h : tb x i) : tb (x ^^^ p2 i) j ↔ tb x j ∧ j ≠ i := by
  show (x ^^^ 2 ^ i).testBit j = true ↔ _
  rw [Nat.testBit_xor, Nat.testBit_two_pow]
  by_cases z : i = j
  · subst z
    rw [decide_eq_true rfl, show x.testBit i = true from h]
    exact ⟨fun q => absurd q (by decide), fun q => absurd rfl q.2⟩
  · rw [decide_eq_false z, Bool.xor_false]
    exact ⟨fun q => ⟨q, fun e => z e.symm⟩, fun q => q.1⟩
theorem nat_tb {x y : Nat} (h : ∀ j, tb x j ↔ tb y j) : x = y := Nat.eq_of_testBit_eq fun j => Bool.eq_iff_iff.mpr (h j)
theorem orp_gt {x i : Nat} (h : ¬ tb x i) : x < x ||| p2 i := by
  refine Nat.lt_of_le_of_ne Nat.left_le_or (fun e => h ?_)
  rw [e]
  exact (tb_orp x i i).mpr (Or.inr rfl)
theorem orp_I {x i : Nat} (hi : i < 16) : nI x ||| (nI 1 <<< (nI i &&& 31)) = nI (x ||| p2 i) := bt_ext fun j hj => by
  have e : bt (nI 1 <<< (nI i &&& 31)) j = decide (j = i) := bt_one (show i < 32 by omega) j
  rw [bt_or, bt_nI _ hj, e, bt_nI _ hj, Bool.eq_iff_iff, Bool.or_eq_true, decide_eq_true_eq]
  exact (tb_orp x i j).symm
section PRS
variable {A : Nat → Nat → Prop} {f T S : Nat}
def PF (A : Nat → Nat → Prop) (f T S y : Nat) : Prop := Mb A f T (UX S y)
theorem ux_or {x t s : Nat} (ht : tb S t) (hst : s ≠ t) : UX S (x ||| p2 (cnt (tb S) t)) s ↔ UX S x s := by
  unfold UX
  rw [tb_orp]
  refine and_congr_right (fun q => ⟨fun y => y.resolve_right (fun e => ?_), Or.inl⟩)
  rcases Nat.lt_or_gt_of_ne hst with z | z
  · have := cnt_lt z q; omega
  · have := cnt_lt z ht; omega
theorem pf_up {x t : Nat} (hp : PF A f T S x) (ht : t < T) (hS : tb S t) (ha : A t f) (hn : ¬ tb x (cnt (tb S) t)) : PF A (f + 1) T S (x ||| p2 (cnt (tb S) t)) := by
  obtain ⟨φ, h1, h2⟩ := hp
  have u : ∀ s, s ≠ t → UX S (x ||| p2 (cnt (tb S) t)) s → UX S x s := fun s hs q => (ux_or hS hs).mp q
  refine ⟨fun s => if s = t then f else φ s, fun s hs q => ?_, fun a b ha' hb qa qb e => ?_⟩
  · show (if s = t then f else φ s) < f + 1 ∧ A s (if s = t then f else φ s)
    by_cases z : s = t
    · rw [if_pos z, z]; exact ⟨Nat.lt_succ_self f, ha⟩
    · rw [if_neg z]
      have w := h1 s hs (u s z q)
      exact ⟨Nat.lt_succ_of_lt w.1, w.2⟩
  · change (if a = t then f else φ a) = (if b = t then f else φ b) at e
    by_cases za : a = t
    · by_cases zb : b = t
      · exact za.trans zb.symm
      · rw [if_pos za, if_neg zb] at e
        have := (h1 b hb (u b zb qb)).1
        omega
    · rw [if_neg za] at e
      by_cases zb : b = t
      · rw [if_pos zb] at e
        have := (h1 a ha' (u a za qa)).1
        omega
      · rw [if_neg zb] at e
        exact h2 a b ha' hb (u a za qa) (u b zb qb) e
theorem pf_mo {y : Nat} (hp : PF A f T S y) : PF A (f + 1) T S y := by
  obtain ⟨φ, h1, h2⟩ := hp
  exact ⟨φ, fun s hs q => ⟨Nat.lt_succ_of_lt (h1 s hs q).1, (h1 s hs q).2⟩, h2⟩
theorem pf_dn {y : Nat} (hp : PF A (f + 1) T S y) : PF A f T S y ∨ ∃ x t, x < y ∧ PF A f T S x ∧ t < T ∧ tb S t ∧ A t f ∧ ¬ tb x (cnt (tb S) t) ∧ y = x ||| p2 (cnt (tb S) t) := by
  obtain ⟨φ, h1, h2⟩ := hp
  by_cases z : ∃ t, t < T ∧ UX S y t ∧ φ t = f
  · obtain ⟨t, ht, ut, e⟩ := z
    right
    have ny : ¬ tb (y ^^^ p2 (cnt (tb S) t)) (cnt (tb S) t) := fun q => ((tb_xop y _ _ ut.2).mp q).2 rfl
    have ey : y = (y ^^^ p2 (cnt (tb S) t)) ||| p2 (cnt (tb S) t) := nat_tb fun j => by
      rw [tb_orp, tb_xop y _ _ ut.2]
      by_cases w : j = cnt (tb S) t
      · rw [w]; exact ⟨fun _ => Or.inr rfl, fun _ => ut.2⟩
      · exact ⟨fun q => Or.inl ⟨q, w⟩, fun q => (q.resolve_right w).1⟩
    have lt : y ^^^ p2 (cnt (tb S) t) < y := by
      have q := orp_gt ny
      rw [← ey] at q
      exact q
    refine ⟨y ^^^ p2 (cnt (tb S) t), t, lt, ?_, ht, ut.1, ?_, ny, ey⟩
    · have sub : ∀ s, UX S (y ^^^ p2 (cnt (tb S) t)) s → UX S y s ∧ s ≠ t := fun s q => ⟨⟨q.1, ((tb_xop y _ _ ut.2).mp q.2).1⟩, fun e => by rw [e] at q; exact ny q.2⟩
      refine ⟨φ, fun s hs q => ?_, fun a b ha hb qa qb => h2 a b ha hb (sub a qa).1 (sub b qb).1⟩
      have w := h1 s hs (sub s q).1
      refine ⟨Nat.lt_of_le_of_ne (Nat.le_of_lt_succ w.1) (fun e2 => (sub s q).2 (h2 s t hs ht (sub s q).1 ut (e2.trans e.symm))), w.2⟩
    · have w := (h1 t ht ut).2
      rw [e] at w
      exact w
  · left
    refine ⟨φ, fun s hs q => ⟨Nat.lt_of_le_of_ne (Nat.le_of_lt_succ (h1 s hs q).1) (fun e => z ⟨s, hs, q, e⟩), (h1 s hs q).2⟩, h2⟩
/-- one family, x from above down to k -/
def MD (A : Nat → Nat → Prop) (f T S N k y : Nat) : Prop := PF A f T S y ∨ ∃ x t, k ≤ x ∧ x < N ∧ PF A f T S x ∧ t < T ∧ tb S t ∧ A t f ∧ ¬ tb x (cnt (tb S) t) ∧ y = x ||| p2 (cnt (tb S) t)
def MI (A : Nat → Nat → Prop) (f T S N x t y : Nat) : Prop := MD A f T S N (x + 1) y ∨ ∃ t', t' < t ∧ tb S t' ∧ A t' f ∧ ¬ tb x (cnt (tb S) t') ∧ y = x ||| p2 (cnt (tb S) t')
theorem md_top {N y : Nat} : MD A f T S N N y ↔ PF A f T S y := ⟨fun q => q.elim id (fun ⟨x, t, h1, h2, _⟩ => absurd h1 (by omega)), Or.inl⟩
theorem md_0 {N y : Nat} (hy : y < N) : MD A f T S N 0 y ↔ PF A (f + 1) T S y := by
  constructor
  · rintro (q | ⟨x, t, _, _, h3, h4, h5, h6, h7, rfl⟩)
    · exact pf_mo q
    · exact pf_up h3 h4 h5 h6 h7
  · intro q
    rcases pf_dn q with q | ⟨x, t, h1, h3, h4, h5, h6, h7, h8⟩
    · exact Or.inl q
    · exact Or.inr ⟨x, t, Nat.zero_le _, by omega, h3, h4, h5, h6, h7, h8⟩
theorem md_self {N x : Nat} : MD A f T S N (x + 1) x ↔ PF A f T S x := by
  refine ⟨fun q => q.elim id (fun ⟨x', t, h1, _, _, _, _, _, h7, e⟩ => ?_), Or.inl⟩
  have := orp_gt h7
  omega
theorem md_no {N x y : Nat} (h : ¬ PF A f T S x) : MD A f T S N x y ↔ MD A f T S N (x + 1) y := by
  constructor
  · rintro (q | ⟨x', t, h1, h2, h3, q⟩)
    · exact Or.inl q
    · exact Or.inr ⟨x', t, Nat.lt_of_le_of_ne h1 (fun e => h (e ▸ h3)), h2, h3, q⟩
  · rintro (q | ⟨x', t, h1, q⟩)
    · exact Or.inl q
    · exact Or.inr ⟨x', t, by omega, q⟩
theorem mi_0 {N x y : Nat} : MI A f T S N x 0 y ↔ MD A f T S N (x + 1) y := ⟨fun q => q.elim id (fun ⟨t, h, _⟩ => absurd h (Nat.not_lt_zero t)), Or.inl⟩
theorem mi_T {N x y : Nat} (hx : x < N) (h : PF A f T S x) : MI A f T S N x T y ↔ MD A f T S N x y := by
  constructor
  · rintro (q | ⟨t, h1, h2, h3, h4, e⟩)
    · rcases q with q | ⟨x', t, h1, q⟩
      · exact Or.inl q
      · exact Or.inr ⟨x', t, by omega, q⟩
    · exact Or.inr ⟨x, t, Nat.le_refl x, hx, h, h1, h2, h3, h4, e⟩
  · rintro (q | ⟨x', t, h1, h2, h3, h4, h5, h6, h7, e⟩)
    · exact Or.inl (Or.inl q)
    · by_cases z : x' = x
      · subst z; exact Or.inr ⟨t, h4, h5, h6, h7, e⟩
      · exact Or.inl (Or.inr ⟨x', t, by omega, h2, h3, h4, h5, h6, h7, e⟩)
theorem mi_no {N x t y : Nat} (h : ¬ (tb S t ∧ A t f ∧ ¬ tb x (cnt (tb S) t))) : MI A f T S N x (t + 1) y ↔ MI A f T S N x t y := by
  constructor
  · rintro (q | ⟨t', h1, h2, h3, h4, e⟩)
    · exact Or.inl q
    · exact Or.inr ⟨t', Nat.lt_of_le_of_ne (Nat.le_of_lt_succ h1) (fun z => by subst z; exact h ⟨h2, h3, h4⟩), h2, h3, h4, e⟩
  · rintro (q | ⟨t', h1, q⟩)
    · exact Or.inl q
    · exact Or.inr ⟨t', by omega, q⟩
theorem mi_yes {N x t y : Nat} (h1 : tb S t) (h2 : A t f) (h3 : ¬ tb x (cnt (tb S) t)) : MI A f T S N x (t + 1) y ↔ MI A f T S N x t y ∨ y = x ||| p2 (cnt (tb S) t) := by
  constructor
  · rintro (q | ⟨t', g1, g2, g3, g4, e⟩)
    · exact Or.inl (Or.inl q)
    · by_cases z : t' = t
      · subst z; exact Or.inr e
      · exact Or.inl (Or.inr ⟨t', by omega, g2, g3, g4, e⟩)
  · rintro ((q | ⟨t', g1, q⟩) | e)
    · exact Or.inl q
    · exact Or.inr ⟨t', by omega, q⟩
    · exact Or.inr ⟨t, Nat.lt_succ_self t, h1, h2, h3, e⟩
theorem pf_0 {y : Nat} (hy : y < p2 (cnt (tb S) T)) : PF A 0 T S y ↔ y = 0 := by
  constructor
  · rintro ⟨φ, h1, _⟩
    refine nat_tb fun j => ⟨fun q => ?_, fun q => absurd q (fun w => Bool.false_ne_true ((Nat.zero_testBit j).symm.trans w))⟩
    have z : cnt (UX S y) T = 0 := cnt_none (fun t ht u => absurd (h1 t ht u).1 (Nat.not_lt_zero _))
    rw [ux_cnt] at z
    by_cases w : j < cnt (tb S) T
    · have := cnt_lt w q
      omega
    · exact absurd q (vtb_hi (Nat.lt_of_lt_of_le hy (p2_le (by omega))))
  · rintro rfl
    exact ⟨fun _ => 0, fun t _ u => absurd u.2 (fun w => Bool.false_ne_true ((Nat.zero_testBit _).symm.trans w)), fun a b _ _ u => absurd u.2 (fun w => Bool.false_ne_true ((Nat.zero_testBit _).symm.trans w))⟩
/-- the most pairs -/
def mxI (A : Nat → Nat → Prop) (f T S k m : Nat) : Prop := (∃ x, x < p2 (cnt (tb S) T) ∧ PF A f T S x ∧ cnt (tb x) (cnt (tb S) T) = m) ∧ ∀ x, x < k → PF A f T S x → cnt (tb x) (cnt (tb S) T) ≤ m
theorem mxI_end {m : Nat} (h : mxI A f T S (p2 (cnt (tb S) T)) m) : mx A f T (tb S) = m := by
  obtain ⟨⟨x, hx, hp, e⟩, h2⟩ := h
  refine mx_of ⟨UX S x, fun t _ u => u.1, hp, by rw [ux_cnt]; exact e⟩ (fun W a b => ?_)
  obtain ⟨y, hy, q⟩ := ux_all S W T
  have eq : ∀ t, t < T → (UX S y t ↔ W t) := fun t ht => (q t ht).trans ⟨fun z => z.2, fun z => ⟨a t ht z, z⟩⟩
  have py : PF A f T S y := by
    obtain ⟨φ, b1, b2⟩ := b
    exact ⟨φ, fun t ht u => b1 t ht ((eq t ht).mp u), fun s t hs ht us ut => b2 s t hs ht ((eq s hs).mp us) ((eq t ht).mp ut)⟩
  rw [← cnt_congr eq, ux_cnt]
  exact h2 y hy py
end PRS
