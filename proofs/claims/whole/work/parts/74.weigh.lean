/-! weighing: rows of what lacks, in their order, as numbers -/
def rxr (g : Nat → Nat) : Nat → Nat
  | 0 => 1
  | r + 1 => (g (5 - r) + 1) * rxr g r
def rx (g : Nat → Nat) (s : Nat) : Nat := rxr g (6 - s)
theorem rx_s (g : Nat → Nat) {s : Nat} (h : s < 6) : rx g s = (g s + 1) * rx g (s + 1) := by
  unfold rx
  rw [show 6 - s = (6 - (s + 1)) + 1 by omega]
  show (g (5 - (6 - (s + 1))) + 1) * rxr g (6 - (s + 1)) = _
  rw [show 5 - (6 - (s + 1)) = s by omega]
theorem rx_6 (g : Nat → Nat) : rx g 6 = 1 := rfl
theorem rxr_pos (g : Nat → Nat) : ∀ r, 0 < rxr g r
  | 0 => Nat.one_pos
  | r + 1 => Nat.mul_pos (Nat.succ_pos _) (rxr_pos g r)
theorem rx_pos (g : Nat → Nat) (s : Nat) : 0 < rx g s := rxr_pos g _
theorem rx_c (g : Nat → Nat) : ∀ d s, s + d ≤ 6 → ∃ c, rx g s = c * rx g (s + d)
  | 0, s, _ => ⟨1, (Nat.one_mul _).symm⟩
  | d + 1, s, h => by
    obtain ⟨c, hc⟩ := rx_c g d (s + 1) (by omega)
    refine ⟨(g s + 1) * c, ?_⟩
    rw [rx_s g (by omega), hc, Nat.mul_assoc, show s + 1 + d = s + (d + 1) by omega]
theorem rx_le {g : Nat → Nat} (hg : ∀ s, s < 6 → g s ≤ 6) : rx g 0 ≤ 117649 := by
  have a := fun s (h : s < 6) => rx_s g h
  have e6 := rx_6 g
  have m7 : ∀ a b c, a ≤ 6 → b ≤ c → (a + 1) * b ≤ 7 * c := fun a b c h1 h2 => Nat.mul_le_mul (by omega) h2
  have h5 : rx g 5 ≤ 7 * 1 := by rw [a 5 (by decide)]; exact m7 _ _ _ (hg 5 (by decide)) (by rw [e6]; exact Nat.le_refl 1)
  have h4 : rx g 4 ≤ 7 * (7 * 1) := by rw [a 4 (by decide)]; exact m7 _ _ _ (hg 4 (by decide)) h5
  have h3 : rx g 3 ≤ 7 * (7 * (7 * 1)) := by rw [a 3 (by decide)]; exact m7 _ _ _ (hg 3 (by decide)) h4
  have h2 : rx g 2 ≤ 7 * (7 * (7 * (7 * 1))) := by rw [a 2 (by decide)]; exact m7 _ _ _ (hg 2 (by decide)) h3
  have h1 : rx g 1 ≤ 7 * (7 * (7 * (7 * (7 * 1)))) := by rw [a 1 (by decide)]; exact m7 _ _ _ (hg 1 (by decide)) h2
  have h0 : rx g 0 ≤ 7 * (7 * (7 * (7 * (7 * (7 * 1))))) := by rw [a 0 (by decide)]; exact m7 _ _ _ (hg 0 (by decide)) h1
  omega
theorem rx_mono {g : Nat → Nat} {s : Nat} (h : s ≤ 6) : rx g s ≤ rx g 0 := by
  obtain ⟨c, hc⟩ := rx_c g s 0 (by omega)
  rw [Nat.zero_add] at hc
  have p := rx_pos g 0
  have : 0 < c := Classical.byContradiction fun z => by rw [show c = 0 by omega, Nat.zero_mul] at hc; omega
  rw [hc]
  exact Nat.le_mul_of_pos_left _ this
def ld (g : Nat → Nat) (s x : Nat) : Nat := x / rx g (s + 1) % (g s + 1)
theorem ld_le (g : Nat → Nat) (s x : Nat) : ld g s x ≤ g s := Nat.le_of_lt_succ (Nat.mod_lt _ (Nat.succ_pos _))
theorem ld_hi {g : Nat → Nat} {s j a y : Nat} (hs : s ≤ 6) (hj : j < s) (hy : y < rx g s) : ld g j (rx g s * a + y) = ld g j (rx g s * a) := by
  unfold ld
  obtain ⟨c, hc⟩ := rx_c g (s - (j + 1)) (j + 1) (by omega)
  rw [show j + 1 + (s - (j + 1)) = s by omega] at hc
  rw [hc, Nat.mul_comm c, ← Nat.div_div_eq_div_mul, ← Nat.div_div_eq_div_mul, Nat.mul_add_div (rx_pos g s), Nat.div_eq_of_lt hy, Nat.add_zero, Nat.mul_div_cancel_left _ (rx_pos g s)]
theorem ld_lo {g : Nat → Nat} {s j a y : Nat} (hs : s ≤ j) (hj : j < 6) : ld g j (rx g s * a + y) = ld g j y := by
  unfold ld
  obtain ⟨c, hc⟩ := rx_c g (j - s) s (by omega)
  rw [show s + (j - s) = j by omega, rx_s g hj] at hc
  have e : rx g s * a + y = rx g (j + 1) * ((g j + 1) * (c * a)) + y := by
    rw [hc]
    congr 1
    ac_rfl
  rw [e, Nat.mul_add_div (rx_pos g (j + 1)), Nat.mul_add_mod]
theorem ld_0 (g : Nat → Nat) (s : Nat) : ld g s 0 = 0 := by unfold ld; rw [Nat.zero_div, Nat.zero_mod]
theorem ld_z {g : Nat → Nat} {s j a : Nat} (hs : s ≤ j) (hj : j < 6) : ld g j (rx g s * a) = 0 := by
  have q := ld_lo (g := g) (a := a) (y := 0) hs hj
  rw [Nat.add_zero, ld_0] at q
  exact q
/-- sums, sets -/
def nx (g : Nat → Nat) (n x : Nat) : Nat := smN (fun s => ld g s x) n
def wx (g w : Nat → Nat) (n x : Nat) : Nat := smN (fun s => ld g s x * w s) n
noncomputable def sx (g : Nat → Nat) (n x : Nat) : Int32 := orr (fun s => cif (0 < ld g s x) ((1 : Int32) <<< (nI s &&& 31)) 0) n
theorem bt_sx (g : Nat → Nat) {n : Nat} (hn : n ≤ 6) (x j : Nat) : bt (sx g n x) j = true ↔ j < n ∧ 0 < ld g j x := by
  unfold sx
  rw [bt_orr]
  constructor
  · rintro ⟨i, hi, q⟩
    obtain ⟨q1, q2⟩ := bt_cif.mp q
    rw [bt_one (by omega), decide_eq_true_eq] at q2
    subst q2
    exact ⟨hi, q1⟩
  · rintro ⟨h1, h2⟩
    exact ⟨j, h1, bt_cif.mpr ⟨h2, by rw [bt_one (by omega)]; exact decide_eq_true rfl⟩⟩
theorem nx_le {g : Nat → Nat} (hg : ∀ s, s < 6 → g s ≤ 6) {n : Nat} (hn : n ≤ 6) (x : Nat) : nx g n x ≤ 36 := by
  have a := smN_b (f := fun s => ld g s x) (B := 6) (n := n) (fun s hs => Nat.le_trans (ld_le g s x) (hg s (by omega)))
  unfold nx
  omega
theorem wx_le {g w : Nat → Nat} (hg : ∀ s, s < 6 → g s ≤ 6) (hw : ∀ s, s < 6 → w s ≤ 400) {n : Nat} (hn : n ≤ 6) (x : Nat) : wx g w n x ≤ 14400 := by
  have a := smN_b (f := fun s => ld g s x * w s) (B := 2400) (n := n) (fun s hs => Nat.le_trans (Nat.mul_le_mul (Nat.le_trans (ld_le g s x) (hg s (by omega))) (hw s (by omega))) (by decide))
  unfold wx
  omega
theorem wx_up (g w : Nat → Nat) (x : Nat) : ∀ n, wx g w n x ≤ smN (fun s => g s * w s) n := fun n => smN_mono (fun s _ => Nat.mul_le_mul_right _ (ld_le g s x))
theorem nx_s (g : Nat → Nat) (n x : Nat) : nx g (n + 1) x = nx g n x + ld g n x := rfl
theorem wx_s (g w : Nat → Nat) (n x : Nat) : wx g w (n + 1) x = wx g w n x + ld g n x * w n := rfl
/-- weight from sort s on -/
noncomputable def wF_ (g w : Nat → Nat) (s : Nat) : Nat := smN (fun j => cif (s ≤ j) (g j * w j) 0) 6
theorem wF_s {g w : Nat → Nat} {s : Nat} (hs : s < 6) : wF_ g w s = wF_ g w (s + 1) + g s * w s :=
  smN_add1 (b := s) hs (cif_f (by omega)) (cif_t (Nat.le_refl s)) (fun j _ hj => by
    by_cases q : s ≤ j
    · rw [cif_t q, cif_t (by omega)]
    · rw [cif_f q, cif_f (by omega)])
theorem wF_6 (g w : Nat → Nat) : wF_ g w 6 = 0 := by
  unfold wF_
  rw [smN_congr (g := fun _ => 0) (fun j hj => cif_f (by omega)), smN_0]
theorem wF_le {g w : Nat → Nat} (hg : ∀ s, s < 6 → g s ≤ 6) (hw : ∀ s, s < 6 → w s ≤ 400) (s : Nat) : wF_ g w s ≤ 14400 := by
  have a := smN_b (f := fun j => cif (s ≤ j) (g j * w j) 0) (B := 2400) (n := 6) (fun j hj => by
    have := Nat.le_trans (Nat.mul_le_mul (hg j hj) (hw j hj)) (show 6 * 400 ≤ 2400 by decide)
    by_cases q : s ≤ j
    · show cif _ _ _ ≤ _
      rw [cif_t q]; exact this
    · show cif _ _ _ ≤ _
      rw [cif_f q]; omega)
  unfold wF_
  omega
theorem two_part {f : Nat → Nat} {s : Nat} (hs : s ≤ 6) : smN f 6 = smN f s + smN (fun j => cif (s ≤ j) (f j) 0) 6 := by
  have e : smN f s = smN (fun j => cif (j < s) (f j) 0) 6 := by
    rw [smN_ext hs (fun j h1 h2 => cif_f (by omega))]
    exact smN_congr (fun j hj => (cif_t hj).symm)
  rw [e]
  exact smN_two (fun j hj => by
    by_cases q : j < s
    · rw [cif_t q, cif_f (by omega)]; rfl
    · rw [cif_f q, cif_t (by omega)]; omega)
theorem wx_hi {g w : Nat → Nat} {s a S y : Nat} (hs : s ≤ 6) (hS : S = rx g s * a) (hy : y < rx g s) : wx g w s (S + y) = wx g w s S := smN_congr (fun j hj => by rw [hS, ld_hi hs hj hy])
theorem nx_hi {g : Nat → Nat} {s a S y : Nat} (hs : s ≤ 6) (hS : S = rx g s * a) (hy : y < rx g s) : nx g s (S + y) = nx g s S := smN_congr (fun j hj => by rw [hS, ld_hi hs hj hy])
theorem wx_b {g w : Nat → Nat} {s a S y : Nat} (hs : s ≤ 6) (hS : S = rx g s * a) (hy : y < rx g s) : wx g w s S ≤ wx g w 6 (S + y) ∧ wx g w 6 (S + y) ≤ wx g w s S + wF_ g w s := by
  have e := two_part (f := fun j => ld g j (S + y) * w j) hs
  have q := wx_hi (w := w) hs hS hy
  unfold wx at *
  rw [e, q]
  refine ⟨Nat.le_add_right _ _, Nat.add_le_add_left ?_ _⟩
  refine smN_mono fun j _ => ?_
  by_cases z : s ≤ j
  · rw [cif_t z, cif_t z]; exact Nat.mul_le_mul_right _ (ld_le g j _)
  · rw [cif_f z, cif_f z]; exact Nat.le_refl _
theorem nx_b {g : Nat → Nat} {s a S y : Nat} (hs : s ≤ 6) (hS : S = rx g s * a) (hy : y < rx g s) : nx g s S ≤ nx g 6 (S + y) := by
  have e := two_part (f := fun j => ld g j (S + y)) hs
  have q := nx_hi hs hS hy
  unfold nx at *
  rw [e, q]
  exact Nat.le_add_right _ _
theorem nx_z {g : Nat → Nat} {s a S : Nat} (hs : s ≤ 6) (hS : S = rx g s * a) : nx g 6 S = nx g s S := smN_ext hs (fun j h1 h2 => by rw [hS]; exact ld_z h1 h2)
/-- all ways: how many, what lacks in some, what is whole in some, the fewest, its row -/
abbrev WT : Type := Nat × Int32 × Int32 × Nat × Nat
def inW (B W e v : Nat) : Prop := (B : Int) - W - e ≤ v ∧ (v : Int) ≤ B - W + e
noncomputable def stW (g w : Nat → Nat) (B W e : Nat) (b : WT) (x : Nat) : WT := cif (inW B W e (wx g w 6 x)) (b.1 + 1, b.2.1 ||| sx g 6 x, b.2.2.1 ||| (nI 63 &&& (sx g 6 x ^^^ (-1))), cif (b.1 = 0 ∨ nx g 6 x < b.2.2.2.1) (nx g 6 x, x) b.2.2.2) b
noncomputable def wgF (g w : Nat → Nat) (B W e x : Nat) : WT := fo (stW g w B W e) 0 x (0, 0, 0, 0, 0)
theorem wg_no {g w : Nat → Nat} {B W e S n : Nat} {b : WT} (h : ∀ x, S ≤ x → x < S + n → ¬ inW B W e (wx g w 6 x)) : fo (stW g w B W e) S n b = b := fo_id fun x h1 h2 => cif_f (h x h1 h2)
theorem or_assoc32 (a b c : Int32) : a ||| b ||| c = a ||| (b ||| c) := Int32.or_assoc a b c
/-- a whole branch at once -/
theorem wg_all {g w : Nat → Nat} {B W e S : Nat} {b : WT} : ∀ n, (∀ x, S ≤ x → x < S + (n + 1) → inW B W e (wx g w 6 x) ∧ nx g 6 S ≤ nx g 6 x) → fo (stW g w B W e) S (n + 1) b = (b.1 + (n + 1), b.2.1 ||| orr (fun i => sx g 6 (S + i)) (n + 1), b.2.2.1 ||| orr (fun i => nI 63 &&& (sx g 6 (S + i) ^^^ (-1))) (n + 1), cif (b.1 = 0 ∨ nx g 6 S < b.2.2.2.1) (nx g 6 S, S) b.2.2.2)
  | 0, q => by
    show stW g w B W e b (S + 0) = _
    rw [show stW g w B W e b (S + 0) = _ from cif_t (q (S + 0) (by omega) (by omega)).1]
    show (b.1 + 1, b.2.1 ||| sx g 6 (S + 0), b.2.2.1 ||| _, _) = (b.1 + 1, b.2.1 ||| ((0 : Int32) ||| sx g 6 (S + 0)), b.2.2.1 ||| ((0 : Int32) ||| _), _)
    rw [Int32.zero_or, Int32.zero_or]
    rfl
  | n + 1, q => by
    rw [fo_s, wg_all n (fun x h1 h2 => q x h1 (by omega))]
    have z := q (S + (n + 1)) (by omega) (by omega)
    have key : cif (b.1 + (n + 1) = 0 ∨ nx g 6 (S + (n + 1)) < (cif (b.1 = 0 ∨ nx g 6 S < b.2.2.2.1) (nx g 6 S, S) b.2.2.2).1) (nx g 6 (S + (n + 1)), S + (n + 1)) (cif (b.1 = 0 ∨ nx g 6 S < b.2.2.2.1) (nx g 6 S, S) b.2.2.2) = cif (b.1 = 0 ∨ nx g 6 S < b.2.2.2.1) (nx g 6 S, S) b.2.2.2 := by
      refine cif_f (fun y => ?_)
      rcases y with y | y
      · omega
      · by_cases c : b.1 = 0 ∨ nx g 6 S < b.2.2.2.1
        · rw [cif_t c] at y
          exact absurd y (Nat.not_lt.mpr z.2)
        · rw [cif_f c] at y
          exact c (Or.inr (Nat.lt_of_le_of_lt z.2 y))
    unfold stW
    rw [cif_t z.1]
    show (b.1 + (n + 1) + 1, b.2.1 ||| orr (fun i => sx g 6 (S + i)) (n + 1) ||| sx g 6 (S + (n + 1)), b.2.2.1 ||| orr (fun i => nI 63 &&& (sx g 6 (S + i) ^^^ (-1))) (n + 1) ||| (nI 63 &&& (sx g 6 (S + (n + 1)) ^^^ (-1))), cif (b.1 + (n + 1) = 0 ∨ nx g 6 (S + (n + 1)) < (cif (b.1 = 0 ∨ nx g 6 S < b.2.2.2.1) (nx g 6 S, S) b.2.2.2).1) (nx g 6 (S + (n + 1)), S + (n + 1)) (cif (b.1 = 0 ∨ nx g 6 S < b.2.2.2.1) (nx g 6 S, S) b.2.2.2)) = _
    rw [key, or_assoc32, or_assoc32]
    rfl
noncomputable def soF (g : Nat → Nat) (s : Nat) : Int32 := orr (fun j => cif (s ≤ j ∧ 0 < g j) ((1 : Int32) <<< (nI j &&& 31)) 0) 6
theorem bt_soF (g : Nat → Nat) (s j : Nat) : bt (soF g s) j = true ↔ j < 6 ∧ s ≤ j ∧ 0 < g j := by
  unfold soF
  rw [bt_orr]
  constructor
  · rintro ⟨i, hi, q⟩
    obtain ⟨q1, q2⟩ := bt_cif.mp q
    rw [bt_one (by omega), decide_eq_true_eq] at q2
    subst q2
    exact ⟨hi, q1⟩
  · rintro ⟨h1, h2⟩
    exact ⟨j, h1, bt_cif.mpr ⟨h2, by rw [bt_one (by omega)]; exact decide_eq_true rfl⟩⟩
theorem bt_63 : ∀ j, j < 32 → bt (nI 63) j = decide (j < 6) := by decide +kernel
theorem wg_or1 {g : Nat → Nat} {s a S : Nat} (hs : s ≤ 6) (hS : S = rx g s * a) : orr (fun i => sx g 6 (S + i)) (rx g s) = sx g s S ||| soF g s := by
  refine bt_eq fun j hj => ?_
  rw [bt_orr, bt_or, Bool.or_eq_true, bt_sx g hs, bt_soF]
  constructor
  · rintro ⟨i, hi, q⟩
    obtain ⟨q1, q2⟩ := (bt_sx g (Nat.le_refl 6) _ j).mp q
    by_cases z : j < s
    · rw [hS, ld_hi hs z hi, ← hS] at q2
      exact Or.inl ⟨z, q2⟩
    · exact Or.inr ⟨q1, by omega, Nat.lt_of_lt_of_le q2 (ld_le g j _)⟩
  · rintro (⟨h1, h2⟩ | ⟨h1, h2, h3⟩)
    · refine ⟨0, rx_pos g s, (bt_sx g (Nat.le_refl 6) _ j).mpr ⟨by omega, ?_⟩⟩
      rw [Nat.add_zero]; exact h2
    · have e1 := rx_s g h1
      have p1 := rx_pos g (j + 1)
      have l1 : rx g (j + 1) < rx g j := by
        rw [e1, Nat.add_mul, Nat.one_mul]
        have := Nat.mul_pos h3 p1
        omega
      have l2 : rx g j ≤ rx g s := by
        obtain ⟨c, hc⟩ := rx_c g (j - s) s (by omega)
        rw [show s + (j - s) = j by omega] at hc
        have p := rx_pos g s
        have : 0 < c := Classical.byContradiction fun z => by rw [show c = 0 by omega, Nat.zero_mul] at hc; omega
        rw [hc]
        exact Nat.le_mul_of_pos_left _ this
      refine ⟨rx g (j + 1), by omega, (bt_sx g (Nat.le_refl 6) _ j).mpr ⟨h1, ?_⟩⟩
      rw [hS, ld_lo h2 h1]
      unfold ld
      rw [Nat.div_self p1, Nat.mod_eq_of_lt (by omega)]
      exact Nat.one_pos
theorem wg_or2 {g : Nat → Nat} {s a S : Nat} (hs : s ≤ 6) (hS : S = rx g s * a) : orr (fun i => nI 63 &&& (sx g 6 (S + i) ^^^ (-1))) (rx g s) = nI 63 &&& (sx g s S ^^^ (-1)) := by
  refine bt_eq fun j hj => ?_
  rw [bt_orr, bt_and, bt_63 j hj, bt_neg _ hj, Bool.and_eq_true, decide_eq_true_eq, Bool.not_eq_true', ← Bool.not_eq_true, bt_sx g hs]
  constructor
  · rintro ⟨i, hi, q⟩
    rw [bt_and, bt_63 j hj, bt_neg _ hj, Bool.and_eq_true, decide_eq_true_eq, Bool.not_eq_true', ← Bool.not_eq_true, bt_sx g (Nat.le_refl 6)] at q
    refine ⟨q.1, fun z => q.2 ⟨q.1, ?_⟩⟩
    rw [hS, ld_hi hs z.1 hi, ← hS]
    exact z.2
  · rintro ⟨h1, h2⟩
    refine ⟨0, rx_pos g s, ?_⟩
    rw [bt_and, bt_63 j hj, bt_neg _ hj, Bool.and_eq_true, decide_eq_true_eq, Bool.not_eq_true', ← Bool.not_eq_true, bt_sx g (Nat.le_refl 6), Nat.add_zero]
    refine ⟨h1, fun z => h2 ⟨?_, z.2⟩⟩
    exact Classical.byContradiction fun y => by
      have := z.2
      rw [hS, ld_z (by omega) h1] at this
      omega
theorem wg_keep {g w : Nat → Nat} {B W e s a S : Nat} {b : WT} (hs : s ≤ 6) (hS : S = rx g s * a) (h : ∀ x, S ≤ x → x < S + rx g s → inW B W e (wx g w 6 x)) : fo (stW g w B W e) S (rx g s) b = (b.1 + rx g s, b.2.1 ||| (sx g s S ||| soF g s), b.2.2.1 ||| (nI 63 &&& (sx g s S ^^^ (-1))), cif (b.1 = 0 ∨ nx g s S < b.2.2.2.1) (nx g s S, S) b.2.2.2) := by
  rw [← wg_or1 hs hS, ← wg_or2 hs hS, ← nx_z hs hS]
  obtain ⟨n, hn⟩ : ∃ n, rx g s = n + 1 := ⟨rx g s - 1, by have := rx_pos g s; omega⟩
  rw [hn]
  refine wg_all n (fun x h1 h2 => ⟨h x h1 (by omega), ?_⟩)
  obtain ⟨y, rfl⟩ : ∃ y, x = S + y := ⟨x - S, by omega⟩
  rw [nx_z hs hS]
  exact nx_b hs hS (by omega)
/-- the next row -/
theorem nxt_d {g : Nat → Nat} {s x : Nat} (hs : s < 6) (hx : x % rx g (s + 1) = rx g (s + 1) - 1) (hl : ld g s x < g s) : (∀ j, j < s → ld g j (x + 1) = ld g j x) ∧ ld g s (x + 1) = ld g s x + 1 ∧ ∀ j, s < j → j < 6 → ld g j (x + 1) = 0 := by
  have p := rx_pos g (s + 1)
  have e1 := Nat.div_add_mod x (rx g (s + 1))
  obtain ⟨q, hq⟩ : ∃ q, q = x / rx g (s + 1) := ⟨_, rfl⟩
  rw [← hq] at e1
  have ex : x + 1 = rx g (s + 1) * (q + 1) := by rw [Nat.mul_add, Nat.mul_one]; omega
  have d1 : (x + 1) / rx g (s + 1) = q + 1 := by rw [ex, Nat.mul_div_cancel_left _ p]
  have hl' : q % (g s + 1) < g s := by unfold ld at hl; rw [← hq] at hl; exact hl
  have e2 := Nat.div_add_mod q (g s + 1)
  refine ⟨fun j hj => ?_, ?_, fun j h1 h2 => ?_⟩
  · unfold ld
    obtain ⟨c, hc⟩ := rx_c g (s - (j + 1)) (j + 1) (by omega)
    rw [show j + 1 + (s - (j + 1)) = s by omega, rx_s g hs] at hc
    have f : ∀ z, z / rx g (j + 1) = z / rx g (s + 1) / (g s + 1) / c := fun z => by
      rw [hc, Nat.mul_comm c, Nat.mul_comm (g s + 1), ← Nat.div_div_eq_div_mul, ← Nat.div_div_eq_div_mul]
    rw [f, f, d1, ← hq]
    congr 2
    have a1 : (q + 1) / (g s + 1) = q / (g s + 1) := by
      have : q + 1 = (g s + 1) * (q / (g s + 1)) + (q % (g s + 1) + 1) := by omega
      rw [this, Nat.mul_add_div (show 0 < g s + 1 by omega), Nat.div_eq_of_lt (show q % (g s + 1) + 1 < g s + 1 by omega), Nat.add_zero]
    rw [a1]
  · unfold ld
    rw [d1, ← hq]
    have : q + 1 = (g s + 1) * (q / (g s + 1)) + (q % (g s + 1) + 1) := by omega
    rw [this, Nat.mul_add_mod, Nat.mod_eq_of_lt (by omega)]
  · rw [ex]
    exact ld_z h1 h2
theorem nxt_m {g : Nat → Nat} {s x : Nat} (hs : s < 6) (hx : x % rx g (s + 1) = rx g (s + 1) - 1) (hl : ld g s x = g s) : x % rx g s = rx g s - 1 := by
  have p := rx_pos g (s + 1)
  have e1 := Nat.div_add_mod x (rx g (s + 1))
  obtain ⟨q, hq⟩ : ∃ q, q = x / rx g (s + 1) := ⟨_, rfl⟩
  rw [← hq] at e1
  have hl' : q % (g s + 1) = g s := by unfold ld at hl; rw [← hq] at hl; exact hl
  have e2 := Nat.div_add_mod q (g s + 1)
  rw [hl'] at e2
  rw [rx_s g hs]
  generalize rx g (s + 1) = R at *
  generalize q / (g s + 1) = c at *
  have ex : x = (g s + 1) * R * c + ((g s + 1) * R - 1) := by
    have h1 : R * q = (g s + 1) * R * c + R * g s := by rw [← e2, Nat.mul_add, ← Nat.mul_assoc, Nat.mul_comm R (g s + 1)]
    have h2 : (g s + 1) * R = R * g s + R := by rw [Nat.add_mul, Nat.one_mul, Nat.mul_comm]
    omega
  have hp : 0 < (g s + 1) * R := Nat.mul_pos (Nat.succ_pos _) p
  rw [ex, Nat.mul_add_mod, Nat.mod_eq_of_lt (by omega)]
